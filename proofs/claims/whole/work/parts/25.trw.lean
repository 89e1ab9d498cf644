set_option maxHeartbeats 4000000 in
set_option maxRecDepth 100000 in
theorem c_T_order (l : Launch) (D : va_G) (cJ cI cG cZ : ClassId) (ad : Nat → Nat) (E : Nat → Int64) (nf : Nat) (T : Nat → Nat → Int64) (hn hs : Nat → Int32) (rt : Nat → Int64) (dn : Bool) (wm cr : Int32) (pf : Nat → Int64) (pl : Nat) (O : Nat → Int64) (ol : Nat) (r8 : Nat → Int64) (L : Nat) (sz : Nat → Nat) (Lp : List Int64) (x : Int32) (hap : tl_ap ad 19) (hI : tl_H nf hn hs L sz pf pl Lp ol) : Met l y_T_order (k_T_order :: tl_ws) { frames := 0, cells := 0, slots := 0, locals := 0 } (tl_Pc D cJ cI cG cZ [.ref (ad 0), .int (x)] (fun H => va_P D tl_cl (tl_W cJ cI cG ad E nf T hn hs rt dn wm cr pf pl O ol r8) H)) (tl_Qi ((tl_order x (E, nf, T, L, sz, rt, dn, wm, cr, Lp, ol, O)).1) (fun H => tl_X D cJ cI cG ad (tl_order x (E, nf, T, L, sz, rt, dn, wm, cr, Lp, ol, O)).2 H) (tl_in ad 19)) 0 0 (tl_in ad 19) := by
  refine Met.ofW (cc := b_T_order) (maxL := 2) (ret := (some .boolean)) (by decide) rfl ?_
  intro p e s m args below meth c s₁ B hml hv
  obtain ⟨rfl, hE, hP⟩ := hv
  have hx := B.exec
  have hb := B.bytes
  have hr := B.returns
  have hw : ∀ w ∈ tl_ws, w.before ([.ref (ad 0), .int (x)] : List Value).toArray s = true := fun w h => atoms_spec (ws := k_T_order :: tl_ws) B.pre w (List.mem_cons_of_mem _ h)
  have hown : s.vm.findClass R_T = some m.cls := findClass_of_methodNamed B.named
  have hlocks := B.notSynchronized
  have hl := lv_entry ([.ref (ad 0), .int (x)]) (n := 2) (Nat.le_of_ble_eq_true rfl)
  rw [lg_entry_eq]
  generalize (lg_sl ([.ref (ad 0), .int (x)]) ++ List.replicate (2 - (lg_sl ([.ref (ad 0), .int (x)])).length) Slot.unset).toArray = ls at hl ⊢
  have hl : lv_has ls 2 [(0, .ref (ad 0)), (1, .int (x))] := hl
  have hP : va_P D tl_cl (tl_W cJ cI cG ad E nf T hn hs rt dn wm cr pf pl O ol r8) s.heap := hP
  have hS : va_S (tl_in ad 19) s.heap s.heap [] := va_S.rf
  have hI0 := hI
  obtain ⟨hnf, hL, hh, hz, hsz, hpl, hpf, hp7, hol⟩ := hI
  have hpub : tl_pub L sz ≤ 64 := Nat.le_trans (tl_pub_le hsz) hnf
  refine lv_iload_n hx hb d_T_order_0 rfl (lv_at hl 1 rfl) ?_
  refine lv_if_lt (tgt := 10) hx hb d_T_order_1 (by decide) (fun h1 => ?_) (fun h1 => ?_)
  · -- 1 t
    refine lv_iconst (v := (nI (0))) hx hb d_T_order_10 (by decide) ?_
    have hsp : tl_order x (E, nf, T, L, sz, rt, dn, wm, cr, Lp, ol, O) = (tl_bi false, (E, nf, T, L, sz, rt, dn, wm, cr, Lp, ol, O)) := by unfold tl_order; dsimp only; first | (rw [if_pos h1]; done) | rw [if_neg h1, if_neg h7]
    refine lv_topi (nm_r (e' := (tl_order x (E, nf, T, L, sz, rt, dn, wm, cr, Lp, ol, O)).1) (by rw [hsp]; rfl) ?_)
    exact W.zret hx hb hr (by rw [hsp]; exact tl_bi_nar _) (fun t9 ht9 _ => tl_endI hS (by show tl_X D cJ cI cG ad (tl_order x (E, nf, T, L, sz, rt, dn, wm, cr, Lp, ol, O)).2 _; rw [hsp]; exact ⟨hn, hs, pf, pl, r8, hI0, hP⟩) ht9) hS.2.2 d_T_order_11
  · -- 1 f
    refine lv_iload_n hx hb d_T_order_4 rfl (lv_at hl 1 rfl) ?_
    refine lv_bipush (v := (nI (20))) hx hb d_T_order_5 (by decide) ?_
    refine lv_icmp_le (tgt := 12) hx hb d_T_order_7 (by decide) (fun h7 => ?_) (fun h7 => ?_)
    · -- 7 t
      refine lv_aload_n hx hb d_T_order_12 rfl (lv_at hl 0 rfl) ?_
      refine va_get (ci := 0) (v := .ref (ad 1)) (C := R_T) (T := F_T) (N := 5) hx hb hw iw_T hown hE.1 hP 0 rfl rfl 0 (by decide) (hw _ tl_m32) (fun _ h9 => h9) rfl d_T_order_13 ?_
      refine lv_iload_n hx hb d_T_order_16 rfl (lv_at hl 1 rfl) ?_
      refine va_putN (ci := 1) (v := .int (x)) (ty := .int) (C := R_D) (T := F_D) (N := 10) hx hb hw iw_D ft_D ft_D_ok n_D hown hE.1 hP (tl_DW hap) hS 1 rfl rfl 8 (by decide) (tl_f6 hE.2) (fun _ h9 => h9) rfl (by decide +kernel) rfl rfl (Nat.le_of_ble_eq_true rfl) d_T_order_17 (fun H locs hP _ hS => ?_)
      have hP : va_P D tl_cl (tl_W cJ cI cG ad E nf T hn hs rt dn wm x pf pl O ol r8) H := hP
      refine lv_iconst (v := (nI (1))) hx hb d_T_order_20 (by decide) ?_
      have hsp : tl_order x (E, nf, T, L, sz, rt, dn, wm, cr, Lp, ol, O) = (tl_bi true, (E, nf, T, L, sz, rt, dn, wm, x, Lp, ol, O)) := by unfold tl_order; dsimp only; rw [if_neg h1, if_pos h7]
      refine lv_topi (nm_r (e' := (tl_order x (E, nf, T, L, sz, rt, dn, wm, cr, Lp, ol, O)).1) (by rw [hsp]; rfl) ?_)
      exact W.zret hx hb hr (by rw [hsp]; exact tl_bi_nar _) (fun t9 ht9 _ => tl_endI hS (by show tl_X D cJ cI cG ad (tl_order x (E, nf, T, L, sz, rt, dn, wm, cr, Lp, ol, O)).2 _; rw [hsp]; exact ⟨hn, hs, pf, pl, r8, hI0, hP⟩) ht9) hS.2.2 d_T_order_21
    · -- 7 f
      refine lv_iconst (v := (nI (0))) hx hb d_T_order_10 (by decide) ?_
      have hsp : tl_order x (E, nf, T, L, sz, rt, dn, wm, cr, Lp, ol, O) = (tl_bi false, (E, nf, T, L, sz, rt, dn, wm, cr, Lp, ol, O)) := by unfold tl_order; dsimp only; first | (rw [if_pos h1]; done) | rw [if_neg h1, if_neg h7]
      refine lv_topi (nm_r (e' := (tl_order x (E, nf, T, L, sz, rt, dn, wm, cr, Lp, ol, O)).1) (by rw [hsp]; rfl) ?_)
      exact W.zret hx hb hr (by rw [hsp]; exact tl_bi_nar _) (fun t9 ht9 _ => tl_endI hS (by show tl_X D cJ cI cG ad (tl_order x (E, nf, T, L, sz, rt, dn, wm, cr, Lp, ol, O)).2 _; rw [hsp]; exact ⟨hn, hs, pf, pl, r8, hI0, hP⟩) ht9) hS.2.2 d_T_order_11

set_option maxHeartbeats 4000000 in
set_option maxRecDepth 100000 in
theorem c_T_offer (l : Launch) (D : va_G) (cJ cI cG cZ : ClassId) (ad : Nat → Nat) (E : Nat → Int64) (nf : Nat) (T : Nat → Nat → Int64) (hn hs : Nat → Int32) (rt : Nat → Int64) (dn : Bool) (wm cr : Int32) (pf : Nat → Int64) (pl : Nat) (O : Nat → Int64) (ol : Nat) (r8 : Nat → Int64) (L : Nat) (sz : Nat → Nat) (Lp : List Int64) (x : Int32) (y : Int64) (hap : tl_ap ad 19) (hI : tl_H nf hn hs L sz pf pl Lp ol) : Met l y_T_offer (k_T_offer :: tl_ws) { frames := 0, cells := 0, slots := 0, locals := 0 } (tl_Pc D cJ cI cG cZ [.ref (ad 0), .int (x), .long (y)] (fun H => va_P D tl_cl (tl_W cJ cI cG ad E nf T hn hs rt dn wm cr pf pl O ol r8) H)) (tl_Qi ((tl_offer x y (E, nf, T, L, sz, rt, dn, wm, cr, Lp, ol, O)).1) (fun H => tl_X D cJ cI cG ad (tl_offer x y (E, nf, T, L, sz, rt, dn, wm, cr, Lp, ol, O)).2 H) (tl_in ad 19)) 0 0 (tl_in ad 19) := by
  refine Met.ofW (cc := b_T_offer) (maxL := 4) (ret := (some .boolean)) (by decide) rfl ?_
  intro p e s m args below meth c s₁ B hml hv
  obtain ⟨rfl, hE, hP⟩ := hv
  have hx := B.exec
  have hb := B.bytes
  have hr := B.returns
  have hw : ∀ w ∈ tl_ws, w.before ([.ref (ad 0), .int (x), .long (y)] : List Value).toArray s = true := fun w h => atoms_spec (ws := k_T_offer :: tl_ws) B.pre w (List.mem_cons_of_mem _ h)
  have hown : s.vm.findClass R_T = some m.cls := findClass_of_methodNamed B.named
  have hlocks := B.notSynchronized
  have hl := lv_entry ([.ref (ad 0), .int (x), .long (y)]) (n := 4) (Nat.le_of_ble_eq_true rfl)
  rw [lg_entry_eq]
  generalize (lg_sl ([.ref (ad 0), .int (x), .long (y)]) ++ List.replicate (4 - (lg_sl ([.ref (ad 0), .int (x), .long (y)])).length) Slot.unset).toArray = ls at hl ⊢
  have hl : lv_has ls 4 [(0, .ref (ad 0)), (1, .int (x)), (2, .long (y))] := hl
  have hP : va_P D tl_cl (tl_W cJ cI cG ad E nf T hn hs rt dn wm cr pf pl O ol r8) s.heap := hP
  have hS : va_S (tl_in ad 19) s.heap s.heap [] := va_S.rf
  have hI0 := hI
  obtain ⟨hnf, hL, hh, hz, hsz, hpl, hpf, hp7, hol⟩ := hI
  have hpub : tl_pub L sz ≤ 64 := Nat.le_trans (tl_pub_le hsz) hnf
  refine lv_iload_n hx hb d_T_offer_0 rfl (lv_at hl 1 rfl) ?_
  refine lv_if_lt (tgt := 10) hx hb d_T_offer_1 (by decide) (fun h1 => ?_) (fun h1 => ?_)
  · -- 1 t
    refine lv_iconst (v := (nI (0))) hx hb d_T_offer_10 (by decide) ?_
    have hsp : tl_offer x y (E, nf, T, L, sz, rt, dn, wm, cr, Lp, ol, O) = (tl_bi false, (E, nf, T, L, sz, rt, dn, wm, cr, Lp, ol, O)) := by unfold tl_offer; dsimp only; first | (rw [if_pos h1]; done) | rw [if_neg h1, if_neg h7]
    refine lv_topi (nm_r (e' := (tl_offer x y (E, nf, T, L, sz, rt, dn, wm, cr, Lp, ol, O)).1) (by rw [hsp]; rfl) ?_)
    exact W.zret hx hb hr (by rw [hsp]; exact tl_bi_nar _) (fun t9 ht9 _ => tl_endI hS (by show tl_X D cJ cI cG ad (tl_offer x y (E, nf, T, L, sz, rt, dn, wm, cr, Lp, ol, O)).2 _; rw [hsp]; exact ⟨hn, hs, pf, pl, r8, hI0, hP⟩) ht9) hS.2.2 d_T_offer_11
  · -- 1 f
    refine lv_iload_n hx hb d_T_offer_4 rfl (lv_at hl 1 rfl) ?_
    refine lv_bipush (v := (nI (8))) hx hb d_T_offer_5 (by decide) ?_
    refine lv_icmp_lt (tgt := 12) hx hb d_T_offer_7 (by decide) (fun h7 => ?_) (fun h7 => ?_)
    · -- 7 t
      obtain ⟨j, hj, rfl⟩ := tl_ix (n := 8) (by omega) h1 (fun q => absurd h7 (Int32.not_lt.mpr q))
      refine lv_aload_n hx hb d_T_offer_12 rfl (lv_at hl 0 rfl) ?_
      refine va_get (ci := 0) (v := .ref (ad 3)) (C := R_T) (T := F_T) (N := 5) hx hb hw iw_T hown hE.1 hP 0 rfl rfl 3 (by decide) (hw _ tl_m35) (fun _ h9 => h9) rfl d_T_offer_13 ?_
      refine lv_iload_n hx hb d_T_offer_16 rfl (lv_at hl 1 rfl) ?_
      refine lv_lload_n hx hb d_T_offer_17 rfl (lv_at hl 2 rfl) ?_
      refine tl_last (a := j) hx hb hE.1 hP (tl_DW hap) hS 3 0 rfl rfl (by omega) (by decide) d_T_offer_18 (fun H locs hP hS => ?_)
      have hP : va_P D tl_cl (tl_W cJ cI cG ad E nf T hn hs rt dn wm cr pf pl (vp_updL O j (y)) ol r8) H := hP
      refine lv_iconst (v := (nI (1))) hx hb d_T_offer_19 (by decide) ?_
      have hsp : tl_offer (nI (j)) y (E, nf, T, L, sz, rt, dn, wm, cr, Lp, ol, O) = (tl_bi true, (E, nf, T, L, sz, rt, dn, wm, cr, Lp, ol, vp_updL O j y)) := by unfold tl_offer; dsimp only; rw [if_neg h1, if_pos h7, nI_clamp (by omega)]
      refine lv_topi (nm_r (e' := (tl_offer (nI (j)) y (E, nf, T, L, sz, rt, dn, wm, cr, Lp, ol, O)).1) (by rw [hsp]; rfl) ?_)
      exact W.zret hx hb hr (by rw [hsp]; exact tl_bi_nar _) (fun t9 ht9 _ => tl_endI hS (by show tl_X D cJ cI cG ad (tl_offer (nI (j)) y (E, nf, T, L, sz, rt, dn, wm, cr, Lp, ol, O)).2 _; rw [hsp]; exact ⟨hn, hs, pf, pl, r8, hI0, hP⟩) ht9) hS.2.2 d_T_offer_20
    · -- 7 f
      refine lv_iconst (v := (nI (0))) hx hb d_T_offer_10 (by decide) ?_
      have hsp : tl_offer x y (E, nf, T, L, sz, rt, dn, wm, cr, Lp, ol, O) = (tl_bi false, (E, nf, T, L, sz, rt, dn, wm, cr, Lp, ol, O)) := by unfold tl_offer; dsimp only; first | (rw [if_pos h1]; done) | rw [if_neg h1, if_neg h7]
      refine lv_topi (nm_r (e' := (tl_offer x y (E, nf, T, L, sz, rt, dn, wm, cr, Lp, ol, O)).1) (by rw [hsp]; rfl) ?_)
      exact W.zret hx hb hr (by rw [hsp]; exact tl_bi_nar _) (fun t9 ht9 _ => tl_endI hS (by show tl_X D cJ cI cG ad (tl_offer x y (E, nf, T, L, sz, rt, dn, wm, cr, Lp, ol, O)).2 _; rw [hsp]; exact ⟨hn, hs, pf, pl, r8, hI0, hP⟩) ht9) hS.2.2 d_T_offer_11

set_option maxHeartbeats 4000000 in
set_option maxRecDepth 100000 in
theorem c_T_offers (l : Launch) (D : va_G) (cJ cI cG cZ : ClassId) (ad : Nat → Nat) (E : Nat → Int64) (nf : Nat) (T : Nat → Nat → Int64) (hn hs : Nat → Int32) (rt : Nat → Int64) (dn : Bool) (wm cr : Int32) (pf : Nat → Int64) (pl : Nat) (O : Nat → Int64) (ol : Nat) (r8 : Nat → Int64) (L : Nat) (sz : Nat → Nat) (Lp : List Int64) (x : Int32) (hap : tl_ap ad 19) (hI : tl_H nf hn hs L sz pf pl Lp ol) : Met l y_T_offers (k_T_offers :: tl_ws) { frames := 0, cells := 0, slots := 0, locals := 0 } (tl_Pc D cJ cI cG cZ [.ref (ad 0), .int (x)] (fun H => va_P D tl_cl (tl_W cJ cI cG ad E nf T hn hs rt dn wm cr pf pl O ol r8) H)) (tl_Qi ((tl_offers x (E, nf, T, L, sz, rt, dn, wm, cr, Lp, ol, O)).1) (fun H => tl_X D cJ cI cG ad (tl_offers x (E, nf, T, L, sz, rt, dn, wm, cr, Lp, ol, O)).2 H) (tl_in ad 19)) 0 0 (tl_in ad 19) := by
  refine Met.ofW (cc := b_T_offers) (maxL := 2) (ret := (some .boolean)) (by decide) rfl ?_
  intro p e s m args below meth c s₁ B hml hv
  obtain ⟨rfl, hE, hP⟩ := hv
  have hx := B.exec
  have hb := B.bytes
  have hr := B.returns
  have hw : ∀ w ∈ tl_ws, w.before ([.ref (ad 0), .int (x)] : List Value).toArray s = true := fun w h => atoms_spec (ws := k_T_offers :: tl_ws) B.pre w (List.mem_cons_of_mem _ h)
  have hown : s.vm.findClass R_T = some m.cls := findClass_of_methodNamed B.named
  have hlocks := B.notSynchronized
  have hl := lv_entry ([.ref (ad 0), .int (x)]) (n := 2) (Nat.le_of_ble_eq_true rfl)
  rw [lg_entry_eq]
  generalize (lg_sl ([.ref (ad 0), .int (x)]) ++ List.replicate (2 - (lg_sl ([.ref (ad 0), .int (x)])).length) Slot.unset).toArray = ls at hl ⊢
  have hl : lv_has ls 2 [(0, .ref (ad 0)), (1, .int (x))] := hl
  have hP : va_P D tl_cl (tl_W cJ cI cG ad E nf T hn hs rt dn wm cr pf pl O ol r8) s.heap := hP
  have hS : va_S (tl_in ad 19) s.heap s.heap [] := va_S.rf
  have hI0 := hI
  obtain ⟨hnf, hL, hh, hz, hsz, hpl, hpf, hp7, hol⟩ := hI
  have hpub : tl_pub L sz ≤ 64 := Nat.le_trans (tl_pub_le hsz) hnf
  refine lv_iload_n hx hb d_T_offers_0 rfl (lv_at hl 1 rfl) ?_
  refine lv_if_lt (tgt := 10) hx hb d_T_offers_1 (by decide) (fun h1 => ?_) (fun h1 => ?_)
  · -- 1 t
    refine lv_iconst (v := (nI (0))) hx hb d_T_offers_10 (by decide) ?_
    have hsp : tl_offers x (E, nf, T, L, sz, rt, dn, wm, cr, Lp, ol, O) = (tl_bi false, (E, nf, T, L, sz, rt, dn, wm, cr, Lp, ol, O)) := by unfold tl_offers; dsimp only; first | (rw [if_pos h1]; done) | rw [if_neg h1, if_neg h7]
    refine lv_topi (nm_r (e' := (tl_offers x (E, nf, T, L, sz, rt, dn, wm, cr, Lp, ol, O)).1) (by rw [hsp]; rfl) ?_)
    exact W.zret hx hb hr (by rw [hsp]; exact tl_bi_nar _) (fun t9 ht9 _ => tl_endI hS (by show tl_X D cJ cI cG ad (tl_offers x (E, nf, T, L, sz, rt, dn, wm, cr, Lp, ol, O)).2 _; rw [hsp]; exact ⟨hn, hs, pf, pl, r8, hI0, hP⟩) ht9) hS.2.2 d_T_offers_11
  · -- 1 f
    refine lv_iload_n hx hb d_T_offers_4 rfl (lv_at hl 1 rfl) ?_
    refine lv_bipush (v := (nI (8))) hx hb d_T_offers_5 (by decide) ?_
    refine lv_icmp_le (tgt := 12) hx hb d_T_offers_7 (by decide) (fun h7 => ?_) (fun h7 => ?_)
    · -- 7 t
      obtain ⟨j, hj, rfl⟩ := tl_ixle (n := 8) (by omega) h1 (fun q => absurd h7 (Int32.not_le.mpr q))
      refine lv_aload_n hx hb d_T_offers_12 rfl (lv_at hl 0 rfl) ?_
      refine lv_iload_n hx hb d_T_offers_13 rfl (lv_at hl 1 rfl) ?_
      refine va_put (ci := 0) (v := .int (nI (j))) (ty := .int) (C := R_T) (T := F_T) (N := 5) hx hb hw iw_T ft_T ft_T_ok n_T hown hE.1 hP (tl_DW hap) hS 0 rfl rfl 4 (by decide) (hw _ tl_m36) (fun _ h9 => h9) rfl (by decide +kernel) rfl rfl (Nat.le_of_ble_eq_true rfl) d_T_offers_14 (fun H locs hP _ hS => ?_)
      have hP : va_P D tl_cl (tl_W cJ cI cG ad E nf T hn hs rt dn wm cr pf pl O j r8) H := hP
      refine lv_iconst (v := (nI (1))) hx hb d_T_offers_17 (by decide) ?_
      have hsp : tl_offers (nI (j)) (E, nf, T, L, sz, rt, dn, wm, cr, Lp, ol, O) = (tl_bi true, (E, nf, T, L, sz, rt, dn, wm, cr, Lp, j, O)) := by unfold tl_offers; dsimp only; rw [if_neg h1, if_pos h7, nI_clamp (by omega)]
      refine lv_topi (nm_r (e' := (tl_offers (nI (j)) (E, nf, T, L, sz, rt, dn, wm, cr, Lp, ol, O)).1) (by rw [hsp]; rfl) ?_)
      exact W.zret hx hb hr (by rw [hsp]; exact tl_bi_nar _) (fun t9 ht9 _ => tl_endI hS (by show tl_X D cJ cI cG ad (tl_offers (nI (j)) (E, nf, T, L, sz, rt, dn, wm, cr, Lp, ol, O)).2 _; rw [hsp]; exact ⟨hn, hs, pf, pl, r8, ⟨hnf, hL, hh, hz, hsz, hpl, hpf, hp7, hj⟩, hP⟩) ht9) hS.2.2 d_T_offers_18
    · -- 7 f
      refine lv_iconst (v := (nI (0))) hx hb d_T_offers_10 (by decide) ?_
      have hsp : tl_offers x (E, nf, T, L, sz, rt, dn, wm, cr, Lp, ol, O) = (tl_bi false, (E, nf, T, L, sz, rt, dn, wm, cr, Lp, ol, O)) := by unfold tl_offers; dsimp only; first | (rw [if_pos h1]; done) | rw [if_neg h1, if_neg h7]
      refine lv_topi (nm_r (e' := (tl_offers x (E, nf, T, L, sz, rt, dn, wm, cr, Lp, ol, O)).1) (by rw [hsp]; rfl) ?_)
      exact W.zret hx hb hr (by rw [hsp]; exact tl_bi_nar _) (fun t9 ht9 _ => tl_endI hS (by show tl_X D cJ cI cG ad (tl_offers x (E, nf, T, L, sz, rt, dn, wm, cr, Lp, ol, O)).2 _; rw [hsp]; exact ⟨hn, hs, pf, pl, r8, hI0, hP⟩) ht9) hS.2.2 d_T_offers_11

set_option maxHeartbeats 4000000 in
set_option maxRecDepth 100000 in
theorem c_T_append (l : Launch) (D : va_G) (cJ cI cG cZ : ClassId) (ad : Nat → Nat) (E : Nat → Int64) (nf : Nat) (T : Nat → Nat → Int64) (hn hs : Nat → Int32) (rt : Nat → Int64) (dn : Bool) (wm cr : Int32) (pf : Nat → Int64) (pl : Nat) (O : Nat → Int64) (ol : Nat) (r8 : Nat → Int64) (L : Nat) (sz : Nat → Nat) (Lp : List Int64) (x : Int64) (hap : tl_ap ad 19) (hI : tl_H nf hn hs L sz pf pl Lp ol) : Met l y_T_append (k_T_append :: tl_ws) { frames := 2, cells := 0, slots := 0, locals := 43 } (tl_Pc D cJ cI cG cZ [.ref (ad 0), .long (x)] (fun H => va_P D tl_cl (tl_W cJ cI cG ad E nf T hn hs rt dn wm cr pf pl O ol r8) H)) (tl_Qi ((tl_append x (E, nf, T, L, sz, rt, dn, wm, cr, Lp, ol, O)).1) (fun H => tl_X D cJ cI cG ad (tl_append x (E, nf, T, L, sz, rt, dn, wm, cr, Lp, ol, O)).2 H) (tl_in ad 19)) 0 0 (tl_in ad 19) := by
  refine Met.ofW (cc := b_T_append) (maxL := 4) (ret := (some .int)) (by decide) rfl ?_
  intro p e s m args below meth c s₁ B hml hv
  obtain ⟨rfl, hE, hP⟩ := hv
  have hx := B.exec
  have hb := B.bytes
  have hr := B.returns
  have hw : ∀ w ∈ tl_ws, w.before ([.ref (ad 0), .long (x)] : List Value).toArray s = true := fun w h => atoms_spec (ws := k_T_append :: tl_ws) B.pre w (List.mem_cons_of_mem _ h)
  have hown : s.vm.findClass R_T = some m.cls := findClass_of_methodNamed B.named
  have hlocks := B.notSynchronized
  have hl := lv_entry ([.ref (ad 0), .long (x)]) (n := 4) (Nat.le_of_ble_eq_true rfl)
  rw [lg_entry_eq]
  generalize (lg_sl ([.ref (ad 0), .long (x)]) ++ List.replicate (4 - (lg_sl ([.ref (ad 0), .long (x)])).length) Slot.unset).toArray = ls at hl ⊢
  have hl : lv_has ls 4 [(0, .ref (ad 0)), (1, .long (x))] := hl
  have hP : va_P D tl_cl (tl_W cJ cI cG ad E nf T hn hs rt dn wm cr pf pl O ol r8) s.heap := hP
  have hS : va_S (tl_in ad 19) s.heap s.heap [] := va_S.rf
  have hI0 := hI
  obtain ⟨hnf, hL, hh, hz, hsz, hpl, hpf, hp7, hol⟩ := hI
  have hpub : tl_pub L sz ≤ 64 := Nat.le_trans (tl_pub_le hsz) hnf
  refine lv_aload_n hx hb d_T_append_0 rfl (lv_at hl 0 rfl) ?_
  refine va_get (ci := 0) (v := .ref (ad 1)) (C := R_T) (T := F_T) (N := 5) hx hb hw iw_T hown hE.1 hP 0 rfl rfl 0 (by decide) (hw _ tl_m32) (fun _ h9 => h9) rfl d_T_append_1 ?_
  refine va_getN (ci := 1) (v := .int (tl_bi (dn))) (C := R_D) (T := F_D) (N := 10) hx hb hw iw_D hown hE.1 hP 1 rfl rfl 9 (by decide) (tl_f7 hE.2) (fun _ h9 => h9) rfl d_T_append_4 ?_
  refine tl_beq (tgt := 13) hx hb d_T_append_7 (by decide) (fun h7 => ?_) (fun h7 => ?_)
  · -- 7 t
    refine lv_aload_n hx hb d_T_append_13 rfl (lv_at hl 0 rfl) ?_
    refine va_get (ci := 0) (v := .ref (ad 1)) (C := R_T) (T := F_T) (N := 5) hx hb hw iw_T hown hE.1 hP 0 rfl rfl 0 (by decide) (hw _ tl_m32) (fun _ h9 => h9) rfl d_T_append_14 ?_
    refine va_getN (ci := 1) (v := .int (nI (nf))) (C := R_D) (T := F_D) (N := 10) hx hb hw iw_D hown hE.1 hP 1 rfl rfl 6 (by decide) (tl_f4 hE.2) (fun _ h9 => h9) rfl d_T_append_17 ?_
    refine lv_istore_n (lv' := [(3, .int (nI (nf))), (0, .ref (ad 0)), (1, .long (x))]) hx hb d_T_append_20 rfl hl (by decide) rfl (fun ls hl => ?_)
    refine lv_iload_n hx hb d_T_append_21 rfl (lv_at hl 0 rfl) ?_
    refine lv_bipush (v := (nI (64))) hx hb d_T_append_22 (by decide) ?_
    refine tl_clt (tgt := 29) (by omega) (by omega) hx hb d_T_append_24 (by decide) (fun h24 => ?_) (fun h24 => ?_)
    · -- 24 t
      refine lv_aload_n hx hb d_T_append_29 rfl (lv_at hl 1 rfl) ?_
      refine va_get (ci := 0) (v := .ref (ad 1)) (C := R_T) (T := F_T) (N := 5) hx hb hw iw_T hown hE.1 hP 0 rfl rfl 0 (by decide) (hw _ tl_m32) (fun _ h9 => h9) rfl d_T_append_30 ?_
      refine lv_iload_n hx hb d_T_append_33 rfl (lv_at hl 0 rfl) ?_
      refine lv_lload_n hx hb d_T_append_34 rfl (lv_at hl 2 rfl) ?_
      refine tl_doI (v := (tl_bi (tl_wB cr))) (va_runVN (As := [.int (nI (nf)), .long (x)]) (rest := []) ⟨hx, hb, hml, hown, hw⟩ (c_D_writeEntry l D cJ cI cG cZ ad E nf T hn hs rt dn wm cr pf pl O ol r8 x hap (by omega)) (⟨tl_cN hw tl_m42 tl_m2 (tl_n1 hE.2) dd_D_writeEntry rfl rfl ⟨Nat.le_of_ble_eq_true rfl, Nat.le_of_ble_eq_true rfl⟩, hw _ tl_m41, hw _ tl_m353⟩) (tl_preV hE hP (va_recv (q0 := 1) (ci := 1) (q := (R_D, F_D, 10)) hE.1 hP rfl rfl)) rfl rfl hl.1 rfl (lv_room (Nat.le_of_ble_eq_true rfl)) d_T_append_35 ⟨Nat.zero_le _, Nat.zero_le _⟩) hS (fun _ h => h) (fun H locs hP hS _ => ?_)
      have hP : va_P D tl_cl (tl_W cJ cI cG ad (if cr = 0 then E else vp_updL E nf x) (if cr = 0 then nf else nf + 1) T hn hs rt (tl_wD cr dn) (tl_wW cr wm) (tl_wC cr) pf pl O ol r8) H := hP
      refine tl_beq (tgt := 45) hx hb d_T_append_38 (by decide) (fun h38 => ?_) (fun h38 => ?_)
      · -- 38 t
        refine lv_bipush (v := (-3)) hx hb d_T_append_45 (by decide) ?_
        have hc := tl_wB_f h38
        rw [if_pos hc, if_pos hc, tl_wD0 hc, tl_wW0 hc, tl_wC0 hc] at hP
        have hsp : tl_append x (E, nf, T, L, sz, rt, dn, wm, cr, Lp, ol, O) = (-3, (E, nf, T, L, sz, rt, true, wm, -1, Lp, ol, O)) := by unfold tl_append; dsimp only; rw [h7, if_neg (by decide), if_pos h24, if_pos hc]
        refine lv_topi (nm_r (e' := (tl_append x (E, nf, T, L, sz, rt, dn, wm, cr, Lp, ol, O)).1) (by rw [hsp]) ?_)
        exact W.iret hx hb hr (fun t9 ht9 _ => tl_endI hS (by show tl_X D cJ cI cG ad (tl_append x (E, nf, T, L, sz, rt, dn, wm, cr, Lp, ol, O)).2 _; rw [hsp]; exact ⟨hn, hs, pf, pl, r8, hI0, hP⟩) ht9) hS.2.2 d_T_append_47
      · -- 38 f
        refine lv_iload_n hx hb d_T_append_41 rfl (lv_at hl 0 rfl) ?_
        refine lv_goto (tgt := 47) hx hb d_T_append_42 (by decide) ?_
        have hc := tl_wB_t h38
        rw [if_neg hc, if_neg hc, tl_wDn hc, tl_wWn hc, tl_wCn hc] at hP
        have hsp : tl_append x (E, nf, T, L, sz, rt, dn, wm, cr, Lp, ol, O) = (nI nf, (vp_updL E nf x, nf + 1, T, L, sz, rt, dn, wm + 1, tl_dec cr, Lp, ol, O)) := by unfold tl_append; dsimp only; rw [h7, if_neg (by decide), if_pos h24, if_neg hc]
        refine lv_topi (nm_r (e' := (tl_append x (E, nf, T, L, sz, rt, dn, wm, cr, Lp, ol, O)).1) (by rw [hsp]) ?_)
        exact W.iret hx hb hr (fun t9 ht9 _ => tl_endI hS (by show tl_X D cJ cI cG ad (tl_append x (E, nf, T, L, sz, rt, dn, wm, cr, Lp, ol, O)).2 _; rw [hsp]; exact ⟨hn, hs, pf, pl, r8, ⟨by omega, hL, hh, hz, fun p hp => Nat.le_succ_of_le (hsz p hp), hpl, hpf, hp7, hol⟩, hP⟩) ht9) hS.2.2 d_T_append_47
    · -- 24 f
      refine lv_iconst (v := (-1)) hx hb d_T_append_27 (by decide) ?_
      have hsp : tl_append x (E, nf, T, L, sz, rt, dn, wm, cr, Lp, ol, O) = (-1, (E, nf, T, L, sz, rt, dn, wm, cr, Lp, ol, O)) := by unfold tl_append; dsimp only; rw [h7, if_neg (by decide), if_neg (by omega)]
      refine lv_topi (nm_r (e' := (tl_append x (E, nf, T, L, sz, rt, dn, wm, cr, Lp, ol, O)).1) (by rw [hsp]) ?_)
      exact W.iret hx hb hr (fun t9 ht9 _ => tl_endI hS (by show tl_X D cJ cI cG ad (tl_append x (E, nf, T, L, sz, rt, dn, wm, cr, Lp, ol, O)).2 _; rw [hsp]; exact ⟨hn, hs, pf, pl, r8, hI0, hP⟩) ht9) hS.2.2 d_T_append_28
  · -- 7 f
    refine lv_bipush (v := (-2)) hx hb d_T_append_10 (by decide) ?_
    have hsp : tl_append x (E, nf, T, L, sz, rt, dn, wm, cr, Lp, ol, O) = (-2, (E, nf, T, L, sz, rt, dn, wm, cr, Lp, ol, O)) := by unfold tl_append; dsimp only; rw [h7]; rfl
    refine lv_topi (nm_r (e' := (tl_append x (E, nf, T, L, sz, rt, dn, wm, cr, Lp, ol, O)).1) (by rw [hsp]) ?_)
    exact W.iret hx hb hr (fun t9 ht9 _ => tl_endI hS (by show tl_X D cJ cI cG ad (tl_append x (E, nf, T, L, sz, rt, dn, wm, cr, Lp, ol, O)).2 _; rw [hsp]; exact ⟨hn, hs, pf, pl, r8, hI0, hP⟩) ht9) hS.2.2 d_T_append_12

set_option maxHeartbeats 4000000 in
set_option maxRecDepth 100000 in
theorem c_T_recover (l : Launch) (D : va_G) (cJ cI cG cZ : ClassId) (ad : Nat → Nat) (E : Nat → Int64) (nf : Nat) (T : Nat → Nat → Int64) (hn hs : Nat → Int32) (rt : Nat → Int64) (dn : Bool) (wm cr : Int32) (pf : Nat → Int64) (pl : Nat) (O : Nat → Int64) (ol : Nat) (r8 : Nat → Int64) (L : Nat) (sz : Nat → Nat) (Lp : List Int64)  (hap : tl_ap ad 19) (hI : tl_H nf hn hs L sz pf pl Lp ol) : Met l y_T_recover (k_T_recover :: tl_ws) { frames := 12, cells := 0, slots := 0, locals := 280 } (tl_Pc D cJ cI cG cZ [.ref (ad 0)] (fun H => va_P D tl_cl (tl_W cJ cI cG ad E nf T hn hs rt dn wm cr pf pl O ol r8) H)) (tl_Qi ((tl_recover (E, nf, T, L, sz, rt, dn, wm, cr, Lp, ol, O)).1) (fun H => tl_X D cJ cI cG ad (tl_recover (E, nf, T, L, sz, rt, dn, wm, cr, Lp, ol, O)).2 H) (tl_in ad 19)) 0 0 (tl_in ad 19) := by
  refine Met.ofW (cc := b_T_recover) (maxL := 1) (ret := (some .int)) (by decide) rfl ?_
  intro p e s m args below meth c s₁ B hml hv
  obtain ⟨rfl, hE, hP⟩ := hv
  have hx := B.exec
  have hb := B.bytes
  have hr := B.returns
  have hw : ∀ w ∈ tl_ws, w.before ([.ref (ad 0)] : List Value).toArray s = true := fun w h => atoms_spec (ws := k_T_recover :: tl_ws) B.pre w (List.mem_cons_of_mem _ h)
  have hown : s.vm.findClass R_T = some m.cls := findClass_of_methodNamed B.named
  have hlocks := B.notSynchronized
  have hl := lv_entry ([.ref (ad 0)]) (n := 1) (Nat.le_of_ble_eq_true rfl)
  rw [lg_entry_eq]
  generalize (lg_sl ([.ref (ad 0)]) ++ List.replicate (1 - (lg_sl ([.ref (ad 0)])).length) Slot.unset).toArray = ls at hl ⊢
  have hl : lv_has ls 1 [(0, .ref (ad 0))] := hl
  have hP : va_P D tl_cl (tl_W cJ cI cG ad E nf T hn hs rt dn wm cr pf pl O ol r8) s.heap := hP
  have hS : va_S (tl_in ad 19) s.heap s.heap [] := va_S.rf
  have hI0 := hI
  obtain ⟨hnf, hL, hh, hz, hsz, hpl, hpf, hp7, hol⟩ := hI
  have hpub : tl_pub L sz ≤ 64 := Nat.le_trans (tl_pub_le hsz) hnf
  refine lv_aload_n hx hb d_T_recover_0 rfl (lv_at hl 0 rfl) ?_
  refine va_get (ci := 0) (v := .ref (ad 1)) (C := R_T) (T := F_T) (N := 5) hx hb hw iw_T hown hE.1 hP 0 rfl rfl 0 (by decide) (hw _ tl_m32) (fun _ h9 => h9) rfl d_T_recover_1 ?_
  refine va_getN (ci := 1) (v := .int (tl_bi (dn))) (C := R_D) (T := F_D) (N := 10) hx hb hw iw_D hown hE.1 hP 1 rfl rfl 9 (by decide) (tl_f7 hE.2) (fun _ h9 => h9) rfl d_T_recover_4 ?_
  refine tl_bne (tgt := 12) hx hb d_T_recover_7 (by decide) (fun h7 => ?_) (fun h7 => ?_)
  · -- 7 t
    refine lv_aload_n hx hb d_T_recover_12 rfl (lv_at hl 0 rfl) ?_
    refine va_get (ci := 0) (v := .ref (ad 1)) (C := R_T) (T := F_T) (N := 5) hx hb hw iw_T hown hE.1 hP 0 rfl rfl 0 (by decide) (hw _ tl_m32) (fun _ h9 => h9) rfl d_T_recover_13 ?_
    refine lv_aload_n hx hb d_T_recover_16 rfl (lv_at hl 0 rfl) ?_
    refine va_get (ci := 0) (v := .ref (ad 1)) (C := R_T) (T := F_T) (N := 5) hx hb hw iw_T hown hE.1 hP 0 rfl rfl 0 (by decide) (hw _ tl_m32) (fun _ h9 => h9) rfl d_T_recover_17 ?_
    refine tl_goI (v := (nI (tl_pub L sz))) (va_runVN (As := []) (rest := [.ref (ad 1)]) ⟨hx, hb, hml, hown, hw⟩ (c_D_publishedSize l D cJ cI cG cZ ad E nf T hn hs rt dn wm cr pf pl O ol r8  L sz hL hh hz) (⟨tl_cN hw tl_m51 tl_m2 (tl_n2 hE.2) dd_D_publishedSize rfl rfl ⟨Nat.le_of_ble_eq_true rfl, Nat.le_of_ble_eq_true rfl⟩, hw _ tl_m50, hw _ tl_m355⟩) (tl_preV hE hP (va_recv (q0 := 1) (ci := 1) (q := (R_D, F_D, 10)) hE.1 hP rfl rfl)) rfl rfl hl.1 rfl (lv_room (Nat.le_of_ble_eq_true rfl)) d_T_recover_20 ⟨Nat.zero_le _, Nat.zero_le _⟩) ?_
    refine tl_doI (v := tl_bi (tl_put E (tl_pub L sz) 9 0 (T, cr, dn, wm)).1) (va_runVN (As := [.int (nI (tl_pub L sz))]) (rest := []) ⟨hx, hb, hml, hown, hw⟩ (c_D_writeTilesFor l D cJ cI cG cZ ad E nf T hn hs rt dn wm cr pf pl O ol r8 (tl_pub L sz) hap (by omega)) (⟨tl_cN hw tl_m56 tl_m2 (tl_n3 hE.2) dd_D_writeTilesFor rfl rfl ⟨Nat.le_of_ble_eq_true rfl, Nat.le_of_ble_eq_true rfl⟩, hw _ tl_m55, hw _ tl_m357⟩) (tl_preV hE hP (va_recv (q0 := 1) (ci := 1) (q := (R_D, F_D, 10)) hE.1 hP rfl rfl)) rfl rfl hl.1 rfl (lv_room (Nat.le_of_ble_eq_true rfl)) d_T_recover_23 ⟨Nat.zero_le _, Nat.zero_le _⟩) hS (fun _ h => h) (fun H locs hX hS _ => ?_)
    obtain ⟨r9, hP⟩ := hX
    have hP : va_P D tl_cl (tl_W cJ cI cG ad E nf ((tl_put E (tl_pub L sz) 9 0 (T, cr, dn, wm)).2.1) hn hs rt ((tl_put E (tl_pub L sz) 9 0 (T, cr, dn, wm)).2.2.2.1) ((tl_put E (tl_pub L sz) 9 0 (T, cr, dn, wm)).2.2.2.2) ((tl_put E (tl_pub L sz) 9 0 (T, cr, dn, wm)).2.2.1) pf pl O ol r9) H := hP
    refine tl_bne (tgt := 32) hx hb d_T_recover_26 (by decide) (fun h26 => ?_) (fun h26 => ?_)
    · -- 26 t
      refine lv_aload_n hx hb d_T_recover_32 rfl (lv_at hl 0 rfl) ?_
      refine va_get (ci := 0) (v := .ref (ad 1)) (C := R_T) (T := F_T) (N := 5) hx hb hw iw_T hown hE.1 hP 0 rfl rfl 0 (by decide) (hw _ tl_m32) (fun _ h9 => h9) rfl d_T_recover_33 ?_
      refine lv_iconst (v := (nI (0))) hx hb d_T_recover_36 (by decide) ?_
      refine va_putN (ci := 1) (v := .int (tl_bi (false))) (ty := .boolean) (C := R_D) (T := F_D) (N := 10) hx hb hw iw_D ft_D ft_D_ok n_D hown hE.1 hP (tl_DW hap) hS 1 rfl rfl 9 (by decide) (tl_f7 hE.2) (fun _ h9 => h9) rfl (by decide +kernel) (tl_bi_nar _) (tl_bi_fit _) (Nat.le_of_ble_eq_true rfl) d_T_recover_37 (fun H locs hP _ hS => ?_)
      have hP : va_P D tl_cl (tl_W cJ cI cG ad E nf ((tl_put E (tl_pub L sz) 9 0 (T, cr, dn, wm)).2.1) hn hs rt false ((tl_put E (tl_pub L sz) 9 0 (T, cr, dn, wm)).2.2.2.2) ((tl_put E (tl_pub L sz) 9 0 (T, cr, dn, wm)).2.2.1) pf pl O ol r9) H := hP
      refine lv_aload_n hx hb d_T_recover_40 rfl (lv_at hl 0 rfl) ?_
      refine va_get (ci := 0) (v := .ref (ad 1)) (C := R_T) (T := F_T) (N := 5) hx hb hw iw_T hown hE.1 hP 0 rfl rfl 0 (by decide) (hw _ tl_m32) (fun _ h9 => h9) rfl d_T_recover_41 ?_
      refine va_getN (ci := 1) (v := .int (nI (nf))) (C := R_D) (T := F_D) (N := 10) hx hb hw iw_D hown hE.1 hP 1 rfl rfl 6 (by decide) (tl_f4 hE.2) (fun _ h9 => h9) rfl d_T_recover_44 ?_
      have hsp : tl_recover (E, nf, T, L, sz, rt, dn, wm, cr, Lp, ol, O) = (nI nf, (E, nf, (tl_put E (tl_pub L sz) 9 0 (T, cr, dn, wm)).2.1, L, sz, rt, false, (tl_put E (tl_pub L sz) 9 0 (T, cr, dn, wm)).2.2.2.2, (tl_put E (tl_pub L sz) 9 0 (T, cr, dn, wm)).2.2.1, Lp, ol, O)) := by unfold tl_recover; dsimp only; rw [if_pos h7]; unfold tl_recR; dsimp only; rw [h26]; rfl
      refine lv_topi (nm_r (e' := (tl_recover (E, nf, T, L, sz, rt, dn, wm, cr, Lp, ol, O)).1) (by rw [hsp]) ?_)
      exact W.iret hx hb hr (fun t9 ht9 _ => tl_endI hS (by show tl_X D cJ cI cG ad (tl_recover (E, nf, T, L, sz, rt, dn, wm, cr, Lp, ol, O)).2 _; rw [hsp]; exact ⟨hn, hs, pf, pl, r9, hI0, hP⟩) ht9) hS.2.2 d_T_recover_47
    · -- 26 f
      refine lv_bipush (v := (-3)) hx hb d_T_recover_29 (by decide) ?_
      have hsp : tl_recover (E, nf, T, L, sz, rt, dn, wm, cr, Lp, ol, O) = (-3, (E, nf, (tl_put E (tl_pub L sz) 9 0 (T, cr, dn, wm)).2.1, L, sz, rt, (tl_put E (tl_pub L sz) 9 0 (T, cr, dn, wm)).2.2.2.1, (tl_put E (tl_pub L sz) 9 0 (T, cr, dn, wm)).2.2.2.2, (tl_put E (tl_pub L sz) 9 0 (T, cr, dn, wm)).2.2.1, Lp, ol, O)) := by unfold tl_recover; dsimp only; rw [if_pos h7]; unfold tl_recR; dsimp only; rw [h26]; rfl
      refine lv_topi (nm_r (e' := (tl_recover (E, nf, T, L, sz, rt, dn, wm, cr, Lp, ol, O)).1) (by rw [hsp]) ?_)
      exact W.iret hx hb hr (fun t9 ht9 _ => tl_endI hS (by show tl_X D cJ cI cG ad (tl_recover (E, nf, T, L, sz, rt, dn, wm, cr, Lp, ol, O)).2 _; rw [hsp]; exact ⟨hn, hs, pf, pl, r9, hI0, hP⟩) ht9) hS.2.2 d_T_recover_31
  · -- 7 f
    refine lv_iconst (v := (-1)) hx hb d_T_recover_10 (by decide) ?_
    have hsp : tl_recover (E, nf, T, L, sz, rt, dn, wm, cr, Lp, ol, O) = (-1, (E, nf, T, L, sz, rt, dn, wm, cr, Lp, ol, O)) := by unfold tl_recover; dsimp only; rw [h7, if_neg (by decide)]
    refine lv_topi (nm_r (e' := (tl_recover (E, nf, T, L, sz, rt, dn, wm, cr, Lp, ol, O)).1) (by rw [hsp]) ?_)
    exact W.iret hx hb hr (fun t9 ht9 _ => tl_endI hS (by show tl_X D cJ cI cG ad (tl_recover (E, nf, T, L, sz, rt, dn, wm, cr, Lp, ol, O)).2 _; rw [hsp]; exact ⟨hn, hs, pf, pl, r8, hI0, hP⟩) ht9) hS.2.2 d_T_recover_11

set_option maxHeartbeats 4000000 in
set_option maxRecDepth 100000 in
theorem c_T_publish (l : Launch) (D : va_G) (cJ cI cG cZ : ClassId) (ad : Nat → Nat) (E : Nat → Int64) (nf : Nat) (T : Nat → Nat → Int64) (hn hs : Nat → Int32) (rt : Nat → Int64) (dn : Bool) (wm cr : Int32) (pf : Nat → Int64) (pl : Nat) (O : Nat → Int64) (ol : Nat) (r8 : Nat → Int64) (L : Nat) (sz : Nat → Nat) (Lp : List Int64)  (hap : tl_ap ad 19) (hI : tl_H nf hn hs L sz pf pl Lp ol) (hL1 : L + 1 < 2 ^ 30) : Met l y_T_publish (k_T_publish :: tl_ws) { frames := 12, cells := 0, slots := 0, locals := 280 } (tl_Pc D cJ cI cG cZ [.ref (ad 0)] (fun H => va_P D tl_cl (tl_W cJ cI cG ad E nf T hn hs rt dn wm cr pf pl O ol r8) H)) (tl_Qi ((tl_publish (E, nf, T, L, sz, rt, dn, wm, cr, Lp, ol, O)).1) (fun H => tl_X D cJ cI cG ad (tl_publish (E, nf, T, L, sz, rt, dn, wm, cr, Lp, ol, O)).2 H) (tl_in ad 19)) 0 0 (tl_in ad 19) := by
  refine Met.ofW (cc := b_T_publish) (maxL := 3) (ret := (some .int)) (by decide) rfl ?_
  intro p e s m args below meth c s₁ B hml hv
  obtain ⟨rfl, hE, hP⟩ := hv
  have hx := B.exec
  have hb := B.bytes
  have hr := B.returns
  have hw : ∀ w ∈ tl_ws, w.before ([.ref (ad 0)] : List Value).toArray s = true := fun w h => atoms_spec (ws := k_T_publish :: tl_ws) B.pre w (List.mem_cons_of_mem _ h)
  have hown : s.vm.findClass R_T = some m.cls := findClass_of_methodNamed B.named
  have hlocks := B.notSynchronized
  have hl := lv_entry ([.ref (ad 0)]) (n := 3) (Nat.le_of_ble_eq_true rfl)
  rw [lg_entry_eq]
  generalize (lg_sl ([.ref (ad 0)]) ++ List.replicate (3 - (lg_sl ([.ref (ad 0)])).length) Slot.unset).toArray = ls at hl ⊢
  have hl : lv_has ls 3 [(0, .ref (ad 0))] := hl
  have hP : va_P D tl_cl (tl_W cJ cI cG ad E nf T hn hs rt dn wm cr pf pl O ol r8) s.heap := hP
  have hS : va_S (tl_in ad 19) s.heap s.heap [] := va_S.rf
  have hI0 := hI
  obtain ⟨hnf, hL, hh, hz, hsz, hpl, hpf, hp7, hol⟩ := hI
  have hpub : tl_pub L sz ≤ 64 := Nat.le_trans (tl_pub_le hsz) hnf
  refine lv_aload_n hx hb d_T_publish_0 rfl (lv_at hl 0 rfl) ?_
  refine va_get (ci := 0) (v := .ref (ad 1)) (C := R_T) (T := F_T) (N := 5) hx hb hw iw_T hown hE.1 hP 0 rfl rfl 0 (by decide) (hw _ tl_m32) (fun _ h9 => h9) rfl d_T_publish_1 ?_
  refine va_getN (ci := 1) (v := .int (tl_bi (dn))) (C := R_D) (T := F_D) (N := 10) hx hb hw iw_D hown hE.1 hP 1 rfl rfl 9 (by decide) (tl_f7 hE.2) (fun _ h9 => h9) rfl d_T_publish_4 ?_
  refine tl_beq (tgt := 13) hx hb d_T_publish_7 (by decide) (fun h7 => ?_) (fun h7 => ?_)
  · -- 7 t
    refine lv_aload_n hx hb d_T_publish_13 rfl (lv_at hl 0 rfl) ?_
    refine va_get (ci := 0) (v := .ref (ad 1)) (C := R_T) (T := F_T) (N := 5) hx hb hw iw_T hown hE.1 hP 0 rfl rfl 0 (by decide) (hw _ tl_m32) (fun _ h9 => h9) rfl d_T_publish_14 ?_
    refine va_getN (ci := 1) (v := .int (nI (nf))) (C := R_D) (T := F_D) (N := 10) hx hb hw iw_D hown hE.1 hP 1 rfl rfl 6 (by decide) (tl_f4 hE.2) (fun _ h9 => h9) rfl d_T_publish_17 ?_
    refine lv_istore_n (lv' := [(1, .int (nI (nf))), (0, .ref (ad 0))]) hx hb d_T_publish_20 rfl hl (by decide) rfl (fun ls hl => ?_)
    refine lv_iload_n hx hb d_T_publish_21 rfl (lv_at hl 0 rfl) ?_
    refine lv_aload_n hx hb d_T_publish_22 rfl (lv_at hl 1 rfl) ?_
    refine va_get (ci := 0) (v := .ref (ad 1)) (C := R_T) (T := F_T) (N := 5) hx hb hw iw_T hown hE.1 hP 0 rfl rfl 0 (by decide) (hw _ tl_m32) (fun _ h9 => h9) rfl d_T_publish_23 ?_
    refine tl_goI (v := (nI (tl_pub L sz))) (va_runVN (As := []) (rest := [.int (nI (nf))]) ⟨hx, hb, hml, hown, hw⟩ (c_D_publishedSize l D cJ cI cG cZ ad E nf T hn hs rt dn wm cr pf pl O ol r8  L sz hL hh hz) (⟨tl_cN hw tl_m51 tl_m2 (tl_n2 hE.2) dd_D_publishedSize rfl rfl ⟨Nat.le_of_ble_eq_true rfl, Nat.le_of_ble_eq_true rfl⟩, hw _ tl_m50, hw _ tl_m355⟩) (tl_preV hE hP (va_recv (q0 := 1) (ci := 1) (q := (R_D, F_D, 10)) hE.1 hP rfl rfl)) rfl rfl hl.1 rfl (lv_room (Nat.le_of_ble_eq_true rfl)) d_T_publish_26 ⟨Nat.zero_le _, Nat.zero_le _⟩) ?_
    refine tl_ceq (tgt := 88) (by omega) (by omega) hx hb d_T_publish_29 (by decide) (fun h29 => ?_) (fun h29 => ?_)
    · -- 29 t
      refine lv_aload_n hx hb d_T_publish_88 rfl (lv_at hl 1 rfl) ?_
      refine va_get (ci := 0) (v := .ref (ad 1)) (C := R_T) (T := F_T) (N := 5) hx hb hw iw_T hown hE.1 hP 0 rfl rfl 0 (by decide) (hw _ tl_m32) (fun _ h9 => h9) rfl d_T_publish_89 ?_
      refine tl_goI (v := (nI (L))) (va_runVN (As := []) (rest := []) ⟨hx, hb, hml, hown, hw⟩ (c_D_latestNumber l D cJ cI cG cZ ad E nf T hn hs rt dn wm cr pf pl O ol r8 L sz hL hh hz) (⟨tl_cN hw tl_m92 tl_m2 (tl_n6 hE.2) dd_D_latestNumber rfl rfl ⟨Nat.le_of_ble_eq_true rfl, Nat.le_of_ble_eq_true rfl⟩, hw _ tl_m91, hw _ tl_m362⟩) (tl_preV hE hP (va_recv (q0 := 1) (ci := 1) (q := (R_D, F_D, 10)) hE.1 hP rfl rfl)) rfl rfl hl.1 rfl (lv_room (Nat.le_of_ble_eq_true rfl)) d_T_publish_92 ⟨Nat.zero_le _, Nat.zero_le _⟩) ?_
      have hsp : tl_publish (E, nf, T, L, sz, rt, dn, wm, cr, Lp, ol, O) = (nI L, (E, nf, T, L, sz, rt, dn, wm, cr, Lp, ol, O)) := by unfold tl_publish; dsimp only; rw [if_neg (by rw [h7]; decide), if_pos h29]
      refine lv_topi (nm_r (e' := (tl_publish (E, nf, T, L, sz, rt, dn, wm, cr, Lp, ol, O)).1) (by rw [hsp]) ?_)
      exact W.iret hx hb hr (fun t9 ht9 _ => tl_endI hS (by show tl_X D cJ cI cG ad (tl_publish (E, nf, T, L, sz, rt, dn, wm, cr, Lp, ol, O)).2 _; rw [hsp]; exact ⟨hn, hs, pf, pl, r8, hI0, hP⟩) ht9) hS.2.2 d_T_publish_95
    · -- 29 f
      refine lv_aload_n hx hb d_T_publish_32 rfl (lv_at hl 1 rfl) ?_
      refine va_get (ci := 0) (v := .ref (ad 1)) (C := R_T) (T := F_T) (N := 5) hx hb hw iw_T hown hE.1 hP 0 rfl rfl 0 (by decide) (hw _ tl_m32) (fun _ h9 => h9) rfl d_T_publish_33 ?_
      refine lv_iload_n hx hb d_T_publish_36 rfl (lv_at hl 0 rfl) ?_
      refine tl_doI (v := tl_bi (tl_put E nf 9 0 (T, cr, dn, wm)).1) (va_runVN (As := [.int (nI (nf))]) (rest := []) ⟨hx, hb, hml, hown, hw⟩ (c_D_writeTilesFor l D cJ cI cG cZ ad E nf T hn hs rt dn wm cr pf pl O ol r8 nf hap (by omega)) (⟨tl_cN hw tl_m56 tl_m2 (tl_n3 hE.2) dd_D_writeTilesFor rfl rfl ⟨Nat.le_of_ble_eq_true rfl, Nat.le_of_ble_eq_true rfl⟩, hw _ tl_m55, hw _ tl_m357⟩) (tl_preV hE hP (va_recv (q0 := 1) (ci := 1) (q := (R_D, F_D, 10)) hE.1 hP rfl rfl)) rfl rfl hl.1 rfl (lv_room (Nat.le_of_ble_eq_true rfl)) d_T_publish_37 ⟨Nat.zero_le _, Nat.zero_le _⟩) hS (fun _ h => h) (fun H locs hX hS _ => ?_)
      obtain ⟨r9, hP⟩ := hX
      have hP : va_P D tl_cl (tl_W cJ cI cG ad E nf ((tl_put E nf 9 0 (T, cr, dn, wm)).2.1) hn hs rt ((tl_put E nf 9 0 (T, cr, dn, wm)).2.2.2.1) ((tl_put E nf 9 0 (T, cr, dn, wm)).2.2.2.2) ((tl_put E nf 9 0 (T, cr, dn, wm)).2.2.1) pf pl O ol r9) H := hP
      refine tl_beq (tgt := 79) hx hb d_T_publish_40 (by decide) (fun h40 => ?_) (fun h40 => ?_)
      · -- 40 t
        refine lv_iconst (v := (nI (0))) hx hb d_T_publish_79 (by decide) ?_
        refine lv_istore_n (lv' := [(2, .int (nI (0))), (1, .int (nI (nf))), (0, .ref (ad 0))]) hx hb d_T_publish_80 rfl hl (by decide) rfl (fun ls hl => ?_)
        have hl : lv_has ls 3 [(2, .int (tl_bi (false))), (1, .int (nI (nf))), (0, .ref (ad 0))] := hl
        refine lv_iload_n hx hb d_T_publish_81 rfl (lv_at hl 0 rfl) ?_
        refine tl_bne (v := false) (tgt := 88) hx hb d_T_publish_82 (by decide) (fun h => absurd h (by decide)) (fun _ => ?_)
        refine lv_bipush (v := (-3)) hx hb d_T_publish_85 (by decide) ?_
        have hsp : tl_publish (E, nf, T, L, sz, rt, dn, wm, cr, Lp, ol, O) = (-3, (E, nf, (tl_put E nf 9 0 (T, cr, dn, wm)).2.1, L, sz, rt, (tl_put E nf 9 0 (T, cr, dn, wm)).2.2.2.1, (tl_put E nf 9 0 (T, cr, dn, wm)).2.2.2.2, (tl_put E nf 9 0 (T, cr, dn, wm)).2.2.1, Lp, ol, O)) := by unfold tl_publish; dsimp only; rw [if_neg (by rw [h7]; decide), if_neg h29]; unfold tl_pubR; dsimp only; rw [h40]; rfl
        refine lv_topi (nm_r (e' := (tl_publish (E, nf, T, L, sz, rt, dn, wm, cr, Lp, ol, O)).1) (by rw [hsp]) ?_)
        exact W.iret hx hb hr (fun t9 ht9 _ => tl_endI hS (by show tl_X D cJ cI cG ad (tl_publish (E, nf, T, L, sz, rt, dn, wm, cr, Lp, ol, O)).2 _; rw [hsp]; exact ⟨hn, hs, pf, pl, r9, hI0, hP⟩) ht9) hS.2.2 d_T_publish_87
      · -- 40 f
        refine lv_aload_n hx hb d_T_publish_43 rfl (lv_at hl 1 rfl) ?_
        refine va_get (ci := 0) (v := .ref (ad 1)) (C := R_T) (T := F_T) (N := 5) hx hb hw iw_T hown hE.1 hP 0 rfl rfl 0 (by decide) (hw _ tl_m32) (fun _ h9 => h9) rfl d_T_publish_44 ?_
        refine lv_aload_n hx hb d_T_publish_47 rfl (lv_at hl 1 rfl) ?_
        refine va_get (ci := 0) (v := .ref (ad 1)) (C := R_T) (T := F_T) (N := 5) hx hb hw iw_T hown hE.1 hP 0 rfl rfl 0 (by decide) (hw _ tl_m32) (fun _ h9 => h9) rfl d_T_publish_48 ?_
        refine tl_goI (v := (nI (L))) (va_runVN (As := []) (rest := [.ref (ad 1)]) ⟨hx, hb, hml, hown, hw⟩ (c_D_latestNumber l D cJ cI cG cZ ad E nf ((tl_put E nf 9 0 (T, cr, dn, wm)).2.1) hn hs rt ((tl_put E nf 9 0 (T, cr, dn, wm)).2.2.2.1) ((tl_put E nf 9 0 (T, cr, dn, wm)).2.2.2.2) ((tl_put E nf 9 0 (T, cr, dn, wm)).2.2.1) pf pl O ol r9 L sz hL hh hz) (⟨tl_cN hw tl_m92 tl_m2 (tl_n6 hE.2) dd_D_latestNumber rfl rfl ⟨Nat.le_of_ble_eq_true rfl, Nat.le_of_ble_eq_true rfl⟩, hw _ tl_m91, hw _ tl_m362⟩) (tl_preV hE hP (va_recv (q0 := 1) (ci := 1) (q := (R_D, F_D, 10)) hE.1 hP rfl rfl)) rfl rfl hl.1 rfl (lv_room (Nat.le_of_ble_eq_true rfl)) d_T_publish_51 ⟨Nat.zero_le _, Nat.zero_le _⟩) ?_
        refine lv_iconst (v := (nI (1))) hx hb d_T_publish_54 (by decide) ?_
        refine lv_iadd hx hb d_T_publish_55 ?_
        refine lv_topi (nm_r (e' := (nI (L + 1))) (nI_add _ _) ?_)
        refine lv_iload_n hx hb d_T_publish_56 rfl (lv_at hl 0 rfl) ?_
        refine lv_aload_n hx hb d_T_publish_57 rfl (lv_at hl 1 rfl) ?_
        refine va_get (ci := 0) (v := .ref (ad 1)) (C := R_T) (T := F_T) (N := 5) hx hb hw iw_T hown hE.1 hP 0 rfl rfl 0 (by decide) (hw _ tl_m32) (fun _ h9 => h9) rfl d_T_publish_58 ?_
        refine va_getN (ci := 1) (v := .ref (ad 4)) (C := R_D) (T := F_D) (N := 10) hx hb hw iw_D hown hE.1 hP 1 rfl rfl 0 (by decide) (tl_f0 hE.2) (fun _ h9 => h9) rfl d_T_publish_61 ?_
        refine lv_iconst (v := (nI (0))) hx hb d_T_publish_64 (by decide) ?_
        refine lv_iload_n hx hb d_T_publish_65 rfl (lv_at hl 0 rfl) ?_
        refine tl_goL (v := (tl_root E 0 nf)) (va_runSN (As := [.ref (ad 4), .int (nI (0)), .int (nI (nf))]) (rest := [.int (nI (nf)), .int (nI (L + 1)), .ref (ad 1)]) ⟨hx, hb, hml, hown, hw⟩ (c_H_ofRow l D cJ cI cG cZ (ad 4) E 6 (by omega) 0 nf (by omega) (by omega)) (⟨tl_cN hw tl_m75 tl_m4 (tl_n7 hE.2) dd_H_ofRow rfl rfl ⟨Nat.le_of_ble_eq_true rfl, Nat.le_of_ble_eq_true rfl⟩, hw _ tl_m74, trivial⟩) (tl_preS hE (hP.sub [4] rfl)) rfl rfl hl.1 rfl (lv_room (Nat.le_of_ble_eq_true rfl)) d_T_publish_66 ⟨Nat.zero_le _, Nat.zero_le _⟩) ?_
        refine tl_doI (v := (tl_bi (tl_wB ((tl_put E nf 9 0 (T, cr, dn, wm)).2.2.1)))) (va_runVN (As := [.int (nI (L + 1)), .int (nI (nf)), .long (tl_root E 0 nf)]) (rest := []) ⟨hx, hb, hml, hown, hw⟩ (c_D_writeHead l D cJ cI cG cZ ad E nf ((tl_put E nf 9 0 (T, cr, dn, wm)).2.1) hn hs rt ((tl_put E nf 9 0 (T, cr, dn, wm)).2.2.2.1) ((tl_put E nf 9 0 (T, cr, dn, wm)).2.2.2.2) ((tl_put E nf 9 0 (T, cr, dn, wm)).2.2.1) pf pl O ol r9 (L + 1) nf (tl_root E 0 nf) hap (by omega)) (⟨tl_cN hw tl_m94 tl_m2 (tl_n8 hE.2) dd_D_writeHead rfl rfl ⟨Nat.le_of_ble_eq_true rfl, Nat.le_of_ble_eq_true rfl⟩, hw _ tl_m93, hw _ tl_m363⟩) (tl_preV hE hP (va_recv (q0 := 1) (ci := 1) (q := (R_D, F_D, 10)) hE.1 hP rfl rfl)) rfl rfl hl.1 rfl (lv_room (Nat.le_of_ble_eq_true rfl)) d_T_publish_69 ⟨Nat.zero_le _, Nat.zero_le _⟩) hS (fun _ h => h) (fun H locs hP hS _ => ?_)
        have hP : va_P D tl_cl (tl_W cJ cI cG ad E nf ((tl_put E nf 9 0 (T, cr, dn, wm)).2.1) (if ((tl_put E nf 9 0 (T, cr, dn, wm)).2.2.1) = 0 then hn else upd hn ((L + 1) % 2) (nI (L + 1))) (if ((tl_put E nf 9 0 (T, cr, dn, wm)).2.2.1) = 0 then hs else upd hs ((L + 1) % 2) (nI nf)) (if ((tl_put E nf 9 0 (T, cr, dn, wm)).2.2.1) = 0 then rt else vp_updL rt ((L + 1) % 2) (tl_root E 0 nf)) (tl_wD ((tl_put E nf 9 0 (T, cr, dn, wm)).2.2.1) ((tl_put E nf 9 0 (T, cr, dn, wm)).2.2.2.1)) (tl_wW ((tl_put E nf 9 0 (T, cr, dn, wm)).2.2.1) ((tl_put E nf 9 0 (T, cr, dn, wm)).2.2.2.2)) (tl_wC ((tl_put E nf 9 0 (T, cr, dn, wm)).2.2.1)) pf pl O ol r9) H := hP
        refine tl_beq (tgt := 79) hx hb d_T_publish_72 (by decide) (fun h72 => ?_) (fun h72 => ?_)
        · -- 72 t
          have hc := tl_wB_f h72
          rw [if_pos hc, if_pos hc, if_pos hc, tl_wD0 hc, tl_wW0 hc, tl_wC0 hc] at hP
          refine lv_iconst (v := (nI (0))) hx hb d_T_publish_79 (by decide) ?_
          refine lv_istore_n (lv' := [(2, .int (nI (0))), (1, .int (nI (nf))), (0, .ref (ad 0))]) hx hb d_T_publish_80 rfl hl (by decide) rfl (fun ls hl => ?_)
          have hl : lv_has ls 3 [(2, .int (tl_bi (false))), (1, .int (nI (nf))), (0, .ref (ad 0))] := hl
          refine lv_iload_n hx hb d_T_publish_81 rfl (lv_at hl 0 rfl) ?_
          refine tl_bne (v := false) (tgt := 88) hx hb d_T_publish_82 (by decide) (fun h => absurd h (by decide)) (fun _ => ?_)
          refine lv_bipush (v := (-3)) hx hb d_T_publish_85 (by decide) ?_
          have hsp : tl_publish (E, nf, T, L, sz, rt, dn, wm, cr, Lp, ol, O) = (-3, (E, nf, (tl_put E nf 9 0 (T, cr, dn, wm)).2.1, L, sz, rt, true, (tl_put E nf 9 0 (T, cr, dn, wm)).2.2.2.2, -1, Lp, ol, O)) := by unfold tl_publish; dsimp only; rw [if_neg (by rw [h7]; decide), if_neg h29]; unfold tl_pubR; dsimp only; rw [if_pos h40, if_pos hc]
          refine lv_topi (nm_r (e' := (tl_publish (E, nf, T, L, sz, rt, dn, wm, cr, Lp, ol, O)).1) (by rw [hsp]) ?_)
          exact W.iret hx hb hr (fun t9 ht9 _ => tl_endI hS (by show tl_X D cJ cI cG ad (tl_publish (E, nf, T, L, sz, rt, dn, wm, cr, Lp, ol, O)).2 _; rw [hsp]; exact ⟨hn, hs, pf, pl, r9, hI0, hP⟩) ht9) hS.2.2 d_T_publish_87
        · -- 72 f
          have hc := tl_wB_t h72
          rw [if_neg hc, if_neg hc, if_neg hc, tl_wDn hc, tl_wWn hc, tl_wCn hc] at hP
          have hh1 := tl_hnS hh
          have hz1 := tl_hzS (k := (L + 1) % 2) (nf := nf) hz
          have hsz1 := tl_szS (k := (L + 1) % 2) hsz
          refine lv_iconst (v := (nI (1))) hx hb d_T_publish_75 (by decide) ?_
          refine lv_goto (tgt := 80) hx hb d_T_publish_76 (by decide) ?_
          refine lv_istore_n (lv' := [(2, .int (nI (1))), (1, .int (nI (nf))), (0, .ref (ad 0))]) hx hb d_T_publish_80 rfl hl (by decide) rfl (fun ls hl => ?_)
          have hl : lv_has ls 3 [(2, .int (tl_bi (true))), (1, .int (nI (nf))), (0, .ref (ad 0))] := hl
          refine lv_iload_n hx hb d_T_publish_81 rfl (lv_at hl 0 rfl) ?_
          refine tl_bne (v := true) (tgt := 88) hx hb d_T_publish_82 (by decide) (fun _ => ?_) (fun h => absurd h (by decide))
          refine lv_aload_n hx hb d_T_publish_88 rfl (lv_at hl 2 rfl) ?_
          refine va_get (ci := 0) (v := .ref (ad 1)) (C := R_T) (T := F_T) (N := 5) hx hb hw iw_T hown hE.1 hP 0 rfl rfl 0 (by decide) (hw _ tl_m32) (fun _ h9 => h9) rfl d_T_publish_89 ?_
          refine tl_goI (v := (nI (L + 1))) (va_runVN (As := []) (rest := []) ⟨hx, hb, hml, hown, hw⟩ (c_D_latestNumber l D cJ cI cG cZ ad E nf ((tl_put E nf 9 0 (T, cr, dn, wm)).2.1) (upd hn ((L + 1) % 2) (nI (L + 1))) (upd hs ((L + 1) % 2) (nI nf)) (vp_updL rt ((L + 1) % 2) (tl_root E 0 nf)) ((tl_put E nf 9 0 (T, cr, dn, wm)).2.2.2.1) ((tl_put E nf 9 0 (T, cr, dn, wm)).2.2.2.2 + 1) (tl_dec (tl_put E nf 9 0 (T, cr, dn, wm)).2.2.1) pf pl O ol r9 (L + 1) (tl_upN sz ((L + 1) % 2) nf) hL1 hh1 hz1) (⟨tl_cN hw tl_m92 tl_m2 (tl_n6 hE.2) dd_D_latestNumber rfl rfl ⟨Nat.le_of_ble_eq_true rfl, Nat.le_of_ble_eq_true rfl⟩, hw _ tl_m91, hw _ tl_m362⟩) (tl_preV hE hP (va_recv (q0 := 1) (ci := 1) (q := (R_D, F_D, 10)) hE.1 hP rfl rfl)) rfl rfl hl.1 rfl (lv_room (Nat.le_of_ble_eq_true rfl)) d_T_publish_92 ⟨Nat.zero_le _, Nat.zero_le _⟩) ?_
          have hsp : tl_publish (E, nf, T, L, sz, rt, dn, wm, cr, Lp, ol, O) = (nI (L + 1), (E, nf, (tl_put E nf 9 0 (T, cr, dn, wm)).2.1, L + 1, tl_upN sz ((L + 1) % 2) nf, vp_updL rt ((L + 1) % 2) (tl_root E 0 nf), (tl_put E nf 9 0 (T, cr, dn, wm)).2.2.2.1, (tl_put E nf 9 0 (T, cr, dn, wm)).2.2.2.2 + 1, tl_dec (tl_put E nf 9 0 (T, cr, dn, wm)).2.2.1, Lp, ol, O)) := by unfold tl_publish; dsimp only; rw [if_neg (by rw [h7]; decide), if_neg h29]; unfold tl_pubR; dsimp only; rw [if_pos h40, if_neg hc]
          refine lv_topi (nm_r (e' := (tl_publish (E, nf, T, L, sz, rt, dn, wm, cr, Lp, ol, O)).1) (by rw [hsp]) ?_)
          exact W.iret hx hb hr (fun t9 ht9 _ => tl_endI hS (by show tl_X D cJ cI cG ad (tl_publish (E, nf, T, L, sz, rt, dn, wm, cr, Lp, ol, O)).2 _; rw [hsp]; exact ⟨(upd hn ((L + 1) % 2) (nI (L + 1))), (upd hs ((L + 1) % 2) (nI nf)), pf, pl, r9, ⟨hnf, hL1, hh1, hz1, hsz1, hpl, hpf, hp7, hol⟩, hP⟩) ht9) hS.2.2 d_T_publish_95
  · -- 7 f
    refine lv_bipush (v := (-2)) hx hb d_T_publish_10 (by decide) ?_
    have hsp : tl_publish (E, nf, T, L, sz, rt, dn, wm, cr, Lp, ol, O) = (-2, (E, nf, T, L, sz, rt, dn, wm, cr, Lp, ol, O)) := by unfold tl_publish; dsimp only; rw [h7]; rfl
    refine lv_topi (nm_r (e' := (tl_publish (E, nf, T, L, sz, rt, dn, wm, cr, Lp, ol, O)).1) (by rw [hsp]) ?_)
    exact W.iret hx hb hr (fun t9 ht9 _ => tl_endI hS (by show tl_X D cJ cI cG ad (tl_publish (E, nf, T, L, sz, rt, dn, wm, cr, Lp, ol, O)).2 _; rw [hsp]; exact ⟨hn, hs, pf, pl, r8, hI0, hP⟩) ht9) hS.2.2 d_T_publish_12

set_option maxHeartbeats 4000000 in
set_option maxRecDepth 100000 in
theorem c_T_include (l : Launch) (D : va_G) (cJ cI cG cZ : ClassId) (ad : Nat → Nat) (E : Nat → Int64) (nf : Nat) (T : Nat → Nat → Int64) (hn hs : Nat → Int32) (rt : Nat → Int64) (dn : Bool) (wm cr : Int32) (pf : Nat → Int64) (pl : Nat) (O : Nat → Int64) (ol : Nat) (r8 : Nat → Int64) (L : Nat) (sz : Nat → Nat) (Lp : List Int64) (mI kI : Int32) (hap : tl_ap ad 19) (hI : tl_H nf hn hs L sz pf pl Lp ol) : Met l y_T_include (k_T_include :: tl_ws) { frames := 17, cells := 0, slots := 0, locals := 401 } (tl_Pc D cJ cI cG cZ [.ref (ad 0), .int (mI), .int (kI)] (fun H => va_P D tl_cl (tl_W cJ cI cG ad E nf T hn hs rt dn wm cr pf pl O ol r8) H)) (tl_Qi ((tl_include mI kI (E, nf, T, L, sz, rt, dn, wm, cr, Lp, ol, O)).1) (fun H => tl_X D cJ cI cG ad (tl_include mI kI (E, nf, T, L, sz, rt, dn, wm, cr, Lp, ol, O)).2 H) (tl_in ad 19)) 0 0 (tl_in ad 19) := by
  refine Met.ofW (cc := b_T_include) (maxL := 3) (ret := (some .int)) (by decide) rfl ?_
  intro p e s m args below meth c s₁ B hml hv
  obtain ⟨rfl, hE, hP⟩ := hv
  have hx := B.exec
  have hb := B.bytes
  have hr := B.returns
  have hw : ∀ w ∈ tl_ws, w.before ([.ref (ad 0), .int (mI), .int (kI)] : List Value).toArray s = true := fun w h => atoms_spec (ws := k_T_include :: tl_ws) B.pre w (List.mem_cons_of_mem _ h)
  have hown : s.vm.findClass R_T = some m.cls := findClass_of_methodNamed B.named
  have hlocks := B.notSynchronized
  have hl := lv_entry ([.ref (ad 0), .int (mI), .int (kI)]) (n := 3) (Nat.le_of_ble_eq_true rfl)
  rw [lg_entry_eq]
  generalize (lg_sl ([.ref (ad 0), .int (mI), .int (kI)]) ++ List.replicate (3 - (lg_sl ([.ref (ad 0), .int (mI), .int (kI)])).length) Slot.unset).toArray = ls at hl ⊢
  have hl : lv_has ls 3 [(0, .ref (ad 0)), (1, .int (mI)), (2, .int (kI))] := hl
  have hP : va_P D tl_cl (tl_W cJ cI cG ad E nf T hn hs rt dn wm cr pf pl O ol r8) s.heap := hP
  have hS : va_S (tl_in ad 19) s.heap s.heap [] := va_S.rf
  have hI0 := hI
  obtain ⟨hnf, hL, hh, hz, hsz, hpl, hpf, hp7, hol⟩ := hI
  have hpub : tl_pub L sz ≤ 64 := Nat.le_trans (tl_pub_le hsz) hnf
  refine lv_aload_n hx hb d_T_include_0 rfl (lv_at hl 0 rfl) ?_
  refine va_get (ci := 0) (v := .ref (ad 1)) (C := R_T) (T := F_T) (N := 5) hx hb hw iw_T hown hE.1 hP 0 rfl rfl 0 (by decide) (hw _ tl_m32) (fun _ h9 => h9) rfl d_T_include_1 ?_
  refine va_getN (ci := 1) (v := .int (tl_bi (dn))) (C := R_D) (T := F_D) (N := 10) hx hb hw iw_D hown hE.1 hP 1 rfl rfl 9 (by decide) (tl_f7 hE.2) (fun _ h9 => h9) rfl d_T_include_4 ?_
  refine tl_beq (tgt := 13) hx hb d_T_include_7 (by decide) (fun h7 => ?_) (fun h7 => ?_)
  · -- 7 t
    refine lv_iload_n hx hb d_T_include_13 rfl (lv_at hl 2 rfl) ?_
    refine lv_iconst (v := (nI (1))) hx hb d_T_include_14 (by decide) ?_
    refine lv_icmp_lt (tgt := 38) hx hb d_T_include_15 (by decide) (fun h15 => ?_) (fun h15 => ?_)
    · -- 15 t
      refine lv_iconst (v := (-1)) hx hb d_T_include_38 (by decide) ?_
      have hsp : tl_include mI kI (E, nf, T, L, sz, rt, dn, wm, cr, Lp, ol, O) = (-1, (E, nf, T, L, sz, rt, dn, wm, cr, Lp, ol, O)) := by unfold tl_include; dsimp only; rw [if_neg (by rw [h7]; decide)]; first | (rw [if_pos h15]; done) | (rw [if_neg h15, if_pos h26]; done) | (rw [if_neg h15, if_neg h26, if_pos h30]; done) | (rw [if_neg h15, if_neg h26, if_neg h30, if_neg h35]; done)
      refine lv_topi (nm_r (e' := (tl_include mI kI (E, nf, T, L, sz, rt, dn, wm, cr, Lp, ol, O)).1) (by rw [hsp]; first | done | rw [Nat.zero_add]) ?_)
      exact W.iret hx hb hr (fun t9 ht9 _ => tl_endI hS (by show tl_X D cJ cI cG ad (tl_include mI kI (E, nf, T, L, sz, rt, dn, wm, cr, Lp, ol, O)).2 _; rw [hsp]; exact ⟨hn, hs, pf, pl, r8, hI0, hP⟩) ht9) hS.2.2 d_T_include_39
    · -- 15 f
      refine lv_iload_n hx hb d_T_include_18 rfl (lv_at hl 2 rfl) ?_
      refine lv_aload_n hx hb d_T_include_19 rfl (lv_at hl 0 rfl) ?_
      refine va_get (ci := 0) (v := .ref (ad 1)) (C := R_T) (T := F_T) (N := 5) hx hb hw iw_T hown hE.1 hP 0 rfl rfl 0 (by decide) (hw _ tl_m32) (fun _ h9 => h9) rfl d_T_include_20 ?_
      refine tl_goI (v := (nI (tl_pub L sz))) (va_runVN (As := []) (rest := [.int (kI)]) ⟨hx, hb, hml, hown, hw⟩ (c_D_publishedSize l D cJ cI cG cZ ad E nf T hn hs rt dn wm cr pf pl O ol r8  L sz hL hh hz) (⟨tl_cN hw tl_m51 tl_m2 (tl_n2 hE.2) dd_D_publishedSize rfl rfl ⟨Nat.le_of_ble_eq_true rfl, Nat.le_of_ble_eq_true rfl⟩, hw _ tl_m50, hw _ tl_m355⟩) (tl_preV hE hP (va_recv (q0 := 1) (ci := 1) (q := (R_D, F_D, 10)) hE.1 hP rfl rfl)) rfl rfl hl.1 rfl (lv_room (Nat.le_of_ble_eq_true rfl)) d_T_include_23 ⟨Nat.zero_le _, Nat.zero_le _⟩) ?_
      refine lv_icmp_gt (tgt := 38) hx hb d_T_include_26 (by decide) (fun h26 => ?_) (fun h26 => ?_)
      · -- 26 t
        refine lv_iconst (v := (-1)) hx hb d_T_include_38 (by decide) ?_
        have hsp : tl_include mI kI (E, nf, T, L, sz, rt, dn, wm, cr, Lp, ol, O) = (-1, (E, nf, T, L, sz, rt, dn, wm, cr, Lp, ol, O)) := by unfold tl_include; dsimp only; rw [if_neg (by rw [h7]; decide)]; first | (rw [if_pos h15]; done) | (rw [if_neg h15, if_pos h26]; done) | (rw [if_neg h15, if_neg h26, if_pos h30]; done) | (rw [if_neg h15, if_neg h26, if_neg h30, if_neg h35]; done)
        refine lv_topi (nm_r (e' := (tl_include mI kI (E, nf, T, L, sz, rt, dn, wm, cr, Lp, ol, O)).1) (by rw [hsp]; first | done | rw [Nat.zero_add]) ?_)
        exact W.iret hx hb hr (fun t9 ht9 _ => tl_endI hS (by show tl_X D cJ cI cG ad (tl_include mI kI (E, nf, T, L, sz, rt, dn, wm, cr, Lp, ol, O)).2 _; rw [hsp]; exact ⟨hn, hs, pf, pl, r8, hI0, hP⟩) ht9) hS.2.2 d_T_include_39
      · -- 26 f
        refine lv_iload_n hx hb d_T_include_29 rfl (lv_at hl 1 rfl) ?_
        refine lv_if_lt (tgt := 38) hx hb d_T_include_30 (by decide) (fun h30 => ?_) (fun h30 => ?_)
        · -- 30 t
          refine lv_iconst (v := (-1)) hx hb d_T_include_38 (by decide) ?_
          have hsp : tl_include mI kI (E, nf, T, L, sz, rt, dn, wm, cr, Lp, ol, O) = (-1, (E, nf, T, L, sz, rt, dn, wm, cr, Lp, ol, O)) := by unfold tl_include; dsimp only; rw [if_neg (by rw [h7]; decide)]; first | (rw [if_pos h15]; done) | (rw [if_neg h15, if_pos h26]; done) | (rw [if_neg h15, if_neg h26, if_pos h30]; done) | (rw [if_neg h15, if_neg h26, if_neg h30, if_neg h35]; done)
          refine lv_topi (nm_r (e' := (tl_include mI kI (E, nf, T, L, sz, rt, dn, wm, cr, Lp, ol, O)).1) (by rw [hsp]; first | done | rw [Nat.zero_add]) ?_)
          exact W.iret hx hb hr (fun t9 ht9 _ => tl_endI hS (by show tl_X D cJ cI cG ad (tl_include mI kI (E, nf, T, L, sz, rt, dn, wm, cr, Lp, ol, O)).2 _; rw [hsp]; exact ⟨hn, hs, pf, pl, r8, hI0, hP⟩) ht9) hS.2.2 d_T_include_39
        · -- 30 f
          refine lv_iload_n hx hb d_T_include_33 rfl (lv_at hl 1 rfl) ?_
          refine lv_iload_n hx hb d_T_include_34 rfl (lv_at hl 2 rfl) ?_
          refine lv_icmp_lt (tgt := 40) hx hb d_T_include_35 (by decide) (fun h35 => ?_) (fun h35 => ?_)
          · -- 35 t
            obtain ⟨kk, hk1, hk2, rfl⟩ := tl_ge1 h15
            obtain ⟨mm, hm2, rfl⟩ := nI_of h30
            have g26 : kk ≤ tl_pub L sz := Nat.le_of_not_lt (fun q => h26 ((nI_ltI (by omega) hk2).mpr q))
            have g35 : mm < kk := (nI_ltI hm2 hk2).mp h35
            have hlen := tl_path_len E 6 (by omega) mm 0 kk (by omega) (by omega)
            refine lv_aload_n hx hb d_T_include_40 rfl (lv_at hl 0 rfl) ?_
            refine lv_iconst (v := (nI (0))) hx hb d_T_include_41 (by decide) ?_
            refine va_put (ci := 0) (v := .int (nI (0))) (ty := .int) (C := R_T) (T := F_T) (N := 5) hx hb hw iw_T ft_T ft_T_ok n_T hown hE.1 hP (tl_DW hap) hS 0 rfl rfl 2 (by decide) (hw _ tl_m34) (fun _ h9 => h9) rfl (by decide +kernel) rfl rfl (Nat.le_of_ble_eq_true rfl) d_T_include_42 (fun H locs hP _ hS => ?_)
            have hP : va_P D tl_cl (tl_W cJ cI cG ad E nf T hn hs rt dn wm cr pf 0 O ol r8) H := hP
            refine lv_aload_n hx hb d_T_include_45 rfl (lv_at hl 0 rfl) ?_
            refine lv_iload_n hx hb d_T_include_46 rfl (lv_at hl 1 rfl) ?_
            refine lv_iconst (v := (nI (0))) hx hb d_T_include_47 (by decide) ?_
            refine lv_iload_n hx hb d_T_include_48 rfl (lv_at hl 2 rfl) ?_
            refine tl_doV (va_runV (As := [.int (nI (mm)), .int (nI (0)), .int (nI (kk))]) (rest := []) ⟨hx, hb, hml, hown, hw⟩ (c_T_addPath l D cJ cI cG cZ ad E nf T hn hs rt dn wm cr O ol r8 hap 6 (by omega) pf 0 mm 0 kk (by omega) (by omega) (by omega) (by omega)) (⟨tl_cB hw tl_m147 tl_m1 tl_m145 dd_T_addPath rfl rfl ⟨Nat.le_of_ble_eq_true rfl, Nat.le_of_ble_eq_true rfl⟩, hw _ tl_m146, hw _ tl_m365⟩) (tl_preV hE hP (va_recv (q0 := 0) (ci := 0) (q := (R_T, F_T, 5)) hE.1 hP rfl rfl)) rfl rfl hl.1 rfl (lv_room (Nat.le_of_ble_eq_true rfl)) d_T_include_49 ⟨Nat.zero_le _, Nat.zero_le _⟩) hS (fun _ h => h) (fun H locs hX hS _ => ?_)
            obtain ⟨pf1, ha1, hP⟩ := hX
            have hP : va_P D tl_cl (tl_W cJ cI cG ad E nf T hn hs rt dn wm cr pf1 (0 + (tl_path E mm 0 kk).length) O ol r8) H := hP
            refine lv_aload_n hx hb d_T_include_52 rfl (lv_at hl 0 rfl) ?_
            refine va_get (ci := 0) (v := .int (nI (0 + (tl_path E mm 0 kk).length))) (C := R_T) (T := F_T) (N := 5) hx hb hw iw_T hown hE.1 hP 0 rfl rfl 2 (by decide) (hw _ tl_m34) (fun _ h9 => h9) rfl d_T_include_53 ?_
            have hsp : tl_include (nI (mm)) (nI (kk)) (E, nf, T, L, sz, rt, dn, wm, cr, Lp, ol, O) = (nI (tl_path E mm 0 kk).length, (E, nf, T, L, sz, rt, dn, wm, cr, tl_path E mm 0 kk, ol, O)) := by unfold tl_include; dsimp only; rw [if_neg (by rw [h7]; decide), if_neg h15, if_neg h26, if_neg h30, if_pos h35, nI_clamp hm2, nI_clamp hk2]
            refine lv_topi (nm_r (e' := (tl_include (nI (mm)) (nI (kk)) (E, nf, T, L, sz, rt, dn, wm, cr, Lp, ol, O)).1) (by rw [hsp]; first | done | rw [Nat.zero_add]) ?_)
            exact W.iret hx hb hr (fun t9 ht9 _ => tl_endI hS (by show tl_X D cJ cI cG ad (tl_include (nI (mm)) (nI (kk)) (E, nf, T, L, sz, rt, dn, wm, cr, Lp, ol, O)).2 _; rw [hsp]; exact ⟨hn, hs, pf1, (0 + (tl_path E mm 0 kk).length), r8, ⟨hnf, hL, hh, hz, hsz, Nat.zero_add _, fun i hi => tl_app_H ha1 i (by omega), by omega, hol⟩, hP⟩) ht9) hS.2.2 d_T_include_56
          · -- 35 f
            refine lv_iconst (v := (-1)) hx hb d_T_include_38 (by decide) ?_
            have hsp : tl_include mI kI (E, nf, T, L, sz, rt, dn, wm, cr, Lp, ol, O) = (-1, (E, nf, T, L, sz, rt, dn, wm, cr, Lp, ol, O)) := by unfold tl_include; dsimp only; rw [if_neg (by rw [h7]; decide)]; first | (rw [if_pos h15]; done) | (rw [if_neg h15, if_pos h26]; done) | (rw [if_neg h15, if_neg h26, if_pos h30]; done) | (rw [if_neg h15, if_neg h26, if_neg h30, if_neg h35]; done)
            refine lv_topi (nm_r (e' := (tl_include mI kI (E, nf, T, L, sz, rt, dn, wm, cr, Lp, ol, O)).1) (by rw [hsp]; first | done | rw [Nat.zero_add]) ?_)
            exact W.iret hx hb hr (fun t9 ht9 _ => tl_endI hS (by show tl_X D cJ cI cG ad (tl_include mI kI (E, nf, T, L, sz, rt, dn, wm, cr, Lp, ol, O)).2 _; rw [hsp]; exact ⟨hn, hs, pf, pl, r8, hI0, hP⟩) ht9) hS.2.2 d_T_include_39
  · -- 7 f
    refine lv_bipush (v := (-2)) hx hb d_T_include_10 (by decide) ?_
    have hsp : tl_include mI kI (E, nf, T, L, sz, rt, dn, wm, cr, Lp, ol, O) = (-2, (E, nf, T, L, sz, rt, dn, wm, cr, Lp, ol, O)) := by unfold tl_include; dsimp only; rw [h7]; rfl
    refine lv_topi (nm_r (e' := (tl_include mI kI (E, nf, T, L, sz, rt, dn, wm, cr, Lp, ol, O)).1) (by rw [hsp]; first | done | rw [Nat.zero_add]) ?_)
    exact W.iret hx hb hr (fun t9 ht9 _ => tl_endI hS (by show tl_X D cJ cI cG ad (tl_include mI kI (E, nf, T, L, sz, rt, dn, wm, cr, Lp, ol, O)).2 _; rw [hsp]; exact ⟨hn, hs, pf, pl, r8, hI0, hP⟩) ht9) hS.2.2 d_T_include_12

set_option maxHeartbeats 4000000 in
set_option maxRecDepth 100000 in
theorem c_T_extend (l : Launch) (D : va_G) (cJ cI cG cZ : ClassId) (ad : Nat → Nat) (E : Nat → Int64) (nf : Nat) (T : Nat → Nat → Int64) (hn hs : Nat → Int32) (rt : Nat → Int64) (dn : Bool) (wm cr : Int32) (pf : Nat → Int64) (pl : Nat) (O : Nat → Int64) (ol : Nat) (r8 : Nat → Int64) (L : Nat) (sz : Nat → Nat) (Lp : List Int64) (mI kI : Int32) (hap : tl_ap ad 19) (hI : tl_H nf hn hs L sz pf pl Lp ol) : Met l y_T_extend (k_T_extend :: tl_ws) { frames := 17, cells := 0, slots := 0, locals := 408 } (tl_Pc D cJ cI cG cZ [.ref (ad 0), .int (mI), .int (kI)] (fun H => va_P D tl_cl (tl_W cJ cI cG ad E nf T hn hs rt dn wm cr pf pl O ol r8) H)) (tl_Qi ((tl_extend mI kI (E, nf, T, L, sz, rt, dn, wm, cr, Lp, ol, O)).1) (fun H => tl_X D cJ cI cG ad (tl_extend mI kI (E, nf, T, L, sz, rt, dn, wm, cr, Lp, ol, O)).2 H) (tl_in ad 19)) 0 0 (tl_in ad 19) := by
  refine Met.ofW (cc := b_T_extend) (maxL := 3) (ret := (some .int)) (by decide) rfl ?_
  intro p e s m args below meth c s₁ B hml hv
  obtain ⟨rfl, hE, hP⟩ := hv
  have hx := B.exec
  have hb := B.bytes
  have hr := B.returns
  have hw : ∀ w ∈ tl_ws, w.before ([.ref (ad 0), .int (mI), .int (kI)] : List Value).toArray s = true := fun w h => atoms_spec (ws := k_T_extend :: tl_ws) B.pre w (List.mem_cons_of_mem _ h)
  have hown : s.vm.findClass R_T = some m.cls := findClass_of_methodNamed B.named
  have hlocks := B.notSynchronized
  have hl := lv_entry ([.ref (ad 0), .int (mI), .int (kI)]) (n := 3) (Nat.le_of_ble_eq_true rfl)
  rw [lg_entry_eq]
  generalize (lg_sl ([.ref (ad 0), .int (mI), .int (kI)]) ++ List.replicate (3 - (lg_sl ([.ref (ad 0), .int (mI), .int (kI)])).length) Slot.unset).toArray = ls at hl ⊢
  have hl : lv_has ls 3 [(0, .ref (ad 0)), (1, .int (mI)), (2, .int (kI))] := hl
  have hP : va_P D tl_cl (tl_W cJ cI cG ad E nf T hn hs rt dn wm cr pf pl O ol r8) s.heap := hP
  have hS : va_S (tl_in ad 19) s.heap s.heap [] := va_S.rf
  have hI0 := hI
  obtain ⟨hnf, hL, hh, hz, hsz, hpl, hpf, hp7, hol⟩ := hI
  have hpub : tl_pub L sz ≤ 64 := Nat.le_trans (tl_pub_le hsz) hnf
  refine lv_aload_n hx hb d_T_extend_0 rfl (lv_at hl 0 rfl) ?_
  refine va_get (ci := 0) (v := .ref (ad 1)) (C := R_T) (T := F_T) (N := 5) hx hb hw iw_T hown hE.1 hP 0 rfl rfl 0 (by decide) (hw _ tl_m32) (fun _ h9 => h9) rfl d_T_extend_1 ?_
  refine va_getN (ci := 1) (v := .int (tl_bi (dn))) (C := R_D) (T := F_D) (N := 10) hx hb hw iw_D hown hE.1 hP 1 rfl rfl 9 (by decide) (tl_f7 hE.2) (fun _ h9 => h9) rfl d_T_extend_4 ?_
  refine tl_beq (tgt := 13) hx hb d_T_extend_7 (by decide) (fun h7 => ?_) (fun h7 => ?_)
  · -- 7 t
    refine lv_iload_n hx hb d_T_extend_13 rfl (lv_at hl 2 rfl) ?_
    refine lv_iconst (v := (nI (1))) hx hb d_T_extend_14 (by decide) ?_
    refine lv_icmp_lt (tgt := 39) hx hb d_T_extend_15 (by decide) (fun h15 => ?_) (fun h15 => ?_)
    · -- 15 t
      refine lv_iconst (v := (-1)) hx hb d_T_extend_39 (by decide) ?_
      have hsp : tl_extend mI kI (E, nf, T, L, sz, rt, dn, wm, cr, Lp, ol, O) = (-1, (E, nf, T, L, sz, rt, dn, wm, cr, Lp, ol, O)) := by unfold tl_extend; dsimp only; rw [if_neg (by rw [h7]; decide)]; first | (rw [if_pos h15]; done) | (rw [if_neg h15, if_pos h26]; done) | (rw [if_neg h15, if_neg h26, if_pos h31]; done) | (rw [if_neg h15, if_neg h26, if_neg h31, if_neg h36]; done)
      refine lv_topi (nm_r (e' := (tl_extend mI kI (E, nf, T, L, sz, rt, dn, wm, cr, Lp, ol, O)).1) (by rw [hsp]; first | done | rw [Nat.zero_add]) ?_)
      exact W.iret hx hb hr (fun t9 ht9 _ => tl_endI hS (by show tl_X D cJ cI cG ad (tl_extend mI kI (E, nf, T, L, sz, rt, dn, wm, cr, Lp, ol, O)).2 _; rw [hsp]; exact ⟨hn, hs, pf, pl, r8, hI0, hP⟩) ht9) hS.2.2 d_T_extend_40
    · -- 15 f
      refine lv_iload_n hx hb d_T_extend_18 rfl (lv_at hl 2 rfl) ?_
      refine lv_aload_n hx hb d_T_extend_19 rfl (lv_at hl 0 rfl) ?_
      refine va_get (ci := 0) (v := .ref (ad 1)) (C := R_T) (T := F_T) (N := 5) hx hb hw iw_T hown hE.1 hP 0 rfl rfl 0 (by decide) (hw _ tl_m32) (fun _ h9 => h9) rfl d_T_extend_20 ?_
      refine tl_goI (v := (nI (tl_pub L sz))) (va_runVN (As := []) (rest := [.int (kI)]) ⟨hx, hb, hml, hown, hw⟩ (c_D_publishedSize l D cJ cI cG cZ ad E nf T hn hs rt dn wm cr pf pl O ol r8  L sz hL hh hz) (⟨tl_cN hw tl_m51 tl_m2 (tl_n2 hE.2) dd_D_publishedSize rfl rfl ⟨Nat.le_of_ble_eq_true rfl, Nat.le_of_ble_eq_true rfl⟩, hw _ tl_m50, hw _ tl_m355⟩) (tl_preV hE hP (va_recv (q0 := 1) (ci := 1) (q := (R_D, F_D, 10)) hE.1 hP rfl rfl)) rfl rfl hl.1 rfl (lv_room (Nat.le_of_ble_eq_true rfl)) d_T_extend_23 ⟨Nat.zero_le _, Nat.zero_le _⟩) ?_
      refine lv_icmp_gt (tgt := 39) hx hb d_T_extend_26 (by decide) (fun h26 => ?_) (fun h26 => ?_)
      · -- 26 t
        refine lv_iconst (v := (-1)) hx hb d_T_extend_39 (by decide) ?_
        have hsp : tl_extend mI kI (E, nf, T, L, sz, rt, dn, wm, cr, Lp, ol, O) = (-1, (E, nf, T, L, sz, rt, dn, wm, cr, Lp, ol, O)) := by unfold tl_extend; dsimp only; rw [if_neg (by rw [h7]; decide)]; first | (rw [if_pos h15]; done) | (rw [if_neg h15, if_pos h26]; done) | (rw [if_neg h15, if_neg h26, if_pos h31]; done) | (rw [if_neg h15, if_neg h26, if_neg h31, if_neg h36]; done)
        refine lv_topi (nm_r (e' := (tl_extend mI kI (E, nf, T, L, sz, rt, dn, wm, cr, Lp, ol, O)).1) (by rw [hsp]; first | done | rw [Nat.zero_add]) ?_)
        exact W.iret hx hb hr (fun t9 ht9 _ => tl_endI hS (by show tl_X D cJ cI cG ad (tl_extend mI kI (E, nf, T, L, sz, rt, dn, wm, cr, Lp, ol, O)).2 _; rw [hsp]; exact ⟨hn, hs, pf, pl, r8, hI0, hP⟩) ht9) hS.2.2 d_T_extend_40
      · -- 26 f
        refine lv_iload_n hx hb d_T_extend_29 rfl (lv_at hl 1 rfl) ?_
        refine lv_iconst (v := (nI (1))) hx hb d_T_extend_30 (by decide) ?_
        refine lv_icmp_lt (tgt := 39) hx hb d_T_extend_31 (by decide) (fun h31 => ?_) (fun h31 => ?_)
        · -- 31 t
          refine lv_iconst (v := (-1)) hx hb d_T_extend_39 (by decide) ?_
          have hsp : tl_extend mI kI (E, nf, T, L, sz, rt, dn, wm, cr, Lp, ol, O) = (-1, (E, nf, T, L, sz, rt, dn, wm, cr, Lp, ol, O)) := by unfold tl_extend; dsimp only; rw [if_neg (by rw [h7]; decide)]; first | (rw [if_pos h15]; done) | (rw [if_neg h15, if_pos h26]; done) | (rw [if_neg h15, if_neg h26, if_pos h31]; done) | (rw [if_neg h15, if_neg h26, if_neg h31, if_neg h36]; done)
          refine lv_topi (nm_r (e' := (tl_extend mI kI (E, nf, T, L, sz, rt, dn, wm, cr, Lp, ol, O)).1) (by rw [hsp]; first | done | rw [Nat.zero_add]) ?_)
          exact W.iret hx hb hr (fun t9 ht9 _ => tl_endI hS (by show tl_X D cJ cI cG ad (tl_extend mI kI (E, nf, T, L, sz, rt, dn, wm, cr, Lp, ol, O)).2 _; rw [hsp]; exact ⟨hn, hs, pf, pl, r8, hI0, hP⟩) ht9) hS.2.2 d_T_extend_40
        · -- 31 f
          refine lv_iload_n hx hb d_T_extend_34 rfl (lv_at hl 1 rfl) ?_
          refine lv_iload_n hx hb d_T_extend_35 rfl (lv_at hl 2 rfl) ?_
          refine lv_icmp_le (tgt := 41) hx hb d_T_extend_36 (by decide) (fun h36 => ?_) (fun h36 => ?_)
          · -- 36 t
            obtain ⟨kk, hk1, hk2, rfl⟩ := tl_ge1 h15
            obtain ⟨mm, hm1, hm2, rfl⟩ := tl_ge1 h31
            have g26 : kk ≤ tl_pub L sz := Nat.le_of_not_lt (fun q => h26 ((nI_ltI (by omega) hk2).mpr q))
            have g36 : mm ≤ kk := (nI_leI hm2 hk2).mp h36
            have hlen := tl_bridge_len E 6 (by omega) mm 0 kk true (by omega) (by omega) (by omega) (by omega)
            refine lv_aload_n hx hb d_T_extend_41 rfl (lv_at hl 0 rfl) ?_
            refine lv_iconst (v := (nI (0))) hx hb d_T_extend_42 (by decide) ?_
            refine va_put (ci := 0) (v := .int (nI (0))) (ty := .int) (C := R_T) (T := F_T) (N := 5) hx hb hw iw_T ft_T ft_T_ok n_T hown hE.1 hP (tl_DW hap) hS 0 rfl rfl 2 (by decide) (hw _ tl_m34) (fun _ h9 => h9) rfl (by decide +kernel) rfl rfl (Nat.le_of_ble_eq_true rfl) d_T_extend_43 (fun H locs hP _ hS => ?_)
            have hP : va_P D tl_cl (tl_W cJ cI cG ad E nf T hn hs rt dn wm cr pf 0 O ol r8) H := hP
            refine lv_aload_n hx hb d_T_extend_46 rfl (lv_at hl 0 rfl) ?_
            refine lv_iload_n hx hb d_T_extend_47 rfl (lv_at hl 1 rfl) ?_
            refine lv_iconst (v := (nI (0))) hx hb d_T_extend_48 (by decide) ?_
            refine lv_iload_n hx hb d_T_extend_49 rfl (lv_at hl 2 rfl) ?_
            refine lv_iconst (v := (nI (1))) hx hb d_T_extend_50 (by decide) ?_
            refine tl_doV (va_runV (As := [.int (nI (mm)), .int (nI (0)), .int (nI (kk)), .int (nI (1))]) (rest := []) ⟨hx, hb, hml, hown, hw⟩ (c_T_addBridge l D cJ cI cG cZ ad E nf T hn hs rt dn wm cr O ol r8 hap 6 (by omega) pf 0 mm 0 kk true (by omega) (by omega) (by omega) (by omega) (by omega)) (⟨tl_cB hw tl_m157 tl_m1 tl_m155 dd_T_addBridge rfl rfl ⟨Nat.le_of_ble_eq_true rfl, Nat.le_of_ble_eq_true rfl⟩, hw _ tl_m156, hw _ tl_m367⟩) (tl_preV hE hP (va_recv (q0 := 0) (ci := 0) (q := (R_T, F_T, 5)) hE.1 hP rfl rfl)) rfl rfl hl.1 rfl (lv_room (Nat.le_of_ble_eq_true rfl)) d_T_extend_51 ⟨Nat.zero_le _, Nat.zero_le _⟩) hS (fun _ h => h) (fun H locs hX hS _ => ?_)
            obtain ⟨pf1, ha1, hP⟩ := hX
            have hP : va_P D tl_cl (tl_W cJ cI cG ad E nf T hn hs rt dn wm cr pf1 (0 + (tl_bridge E mm 0 kk true).length) O ol r8) H := hP
            refine lv_aload_n hx hb d_T_extend_54 rfl (lv_at hl 0 rfl) ?_
            refine va_get (ci := 0) (v := .int (nI (0 + (tl_bridge E mm 0 kk true).length))) (C := R_T) (T := F_T) (N := 5) hx hb hw iw_T hown hE.1 hP 0 rfl rfl 2 (by decide) (hw _ tl_m34) (fun _ h9 => h9) rfl d_T_extend_55 ?_
            have hsp : tl_extend (nI (mm)) (nI (kk)) (E, nf, T, L, sz, rt, dn, wm, cr, Lp, ol, O) = (nI (tl_bridge E mm 0 kk true).length, (E, nf, T, L, sz, rt, dn, wm, cr, tl_bridge E mm 0 kk true, ol, O)) := by unfold tl_extend; dsimp only; rw [if_neg (by rw [h7]; decide), if_neg h15, if_neg h26, if_neg h31, if_pos h36, nI_clamp hm2, nI_clamp hk2]
            refine lv_topi (nm_r (e' := (tl_extend (nI (mm)) (nI (kk)) (E, nf, T, L, sz, rt, dn, wm, cr, Lp, ol, O)).1) (by rw [hsp]; first | done | rw [Nat.zero_add]) ?_)
            exact W.iret hx hb hr (fun t9 ht9 _ => tl_endI hS (by show tl_X D cJ cI cG ad (tl_extend (nI (mm)) (nI (kk)) (E, nf, T, L, sz, rt, dn, wm, cr, Lp, ol, O)).2 _; rw [hsp]; exact ⟨hn, hs, pf1, (0 + (tl_bridge E mm 0 kk true).length), r8, ⟨hnf, hL, hh, hz, hsz, Nat.zero_add _, fun i hi => tl_app_H ha1 i (by omega), by omega, hol⟩, hP⟩) ht9) hS.2.2 d_T_extend_58
          · -- 36 f
            refine lv_iconst (v := (-1)) hx hb d_T_extend_39 (by decide) ?_
            have hsp : tl_extend mI kI (E, nf, T, L, sz, rt, dn, wm, cr, Lp, ol, O) = (-1, (E, nf, T, L, sz, rt, dn, wm, cr, Lp, ol, O)) := by unfold tl_extend; dsimp only; rw [if_neg (by rw [h7]; decide)]; first | (rw [if_pos h15]; done) | (rw [if_neg h15, if_pos h26]; done) | (rw [if_neg h15, if_neg h26, if_pos h31]; done) | (rw [if_neg h15, if_neg h26, if_neg h31, if_neg h36]; done)
            refine lv_topi (nm_r (e' := (tl_extend mI kI (E, nf, T, L, sz, rt, dn, wm, cr, Lp, ol, O)).1) (by rw [hsp]; first | done | rw [Nat.zero_add]) ?_)
            exact W.iret hx hb hr (fun t9 ht9 _ => tl_endI hS (by show tl_X D cJ cI cG ad (tl_extend mI kI (E, nf, T, L, sz, rt, dn, wm, cr, Lp, ol, O)).2 _; rw [hsp]; exact ⟨hn, hs, pf, pl, r8, hI0, hP⟩) ht9) hS.2.2 d_T_extend_40
  · -- 7 f
    refine lv_bipush (v := (-2)) hx hb d_T_extend_10 (by decide) ?_
    have hsp : tl_extend mI kI (E, nf, T, L, sz, rt, dn, wm, cr, Lp, ol, O) = (-2, (E, nf, T, L, sz, rt, dn, wm, cr, Lp, ol, O)) := by unfold tl_extend; dsimp only; rw [h7]; rfl
    refine lv_topi (nm_r (e' := (tl_extend mI kI (E, nf, T, L, sz, rt, dn, wm, cr, Lp, ol, O)).1) (by rw [hsp]; first | done | rw [Nat.zero_add]) ?_)
    exact W.iret hx hb hr (fun t9 ht9 _ => tl_endI hS (by show tl_X D cJ cI cG ad (tl_extend mI kI (E, nf, T, L, sz, rt, dn, wm, cr, Lp, ol, O)).2 _; rw [hsp]; exact ⟨hn, hs, pf, pl, r8, hI0, hP⟩) ht9) hS.2.2 d_T_extend_12
