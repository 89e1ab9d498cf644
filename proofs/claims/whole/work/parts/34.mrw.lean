set_option maxHeartbeats 4000000 in
set_option maxRecDepth 100000 in
theorem c_M_order (l : Launch) (D : va_G) (cJ cI cG cZ : ClassId) (bd : Nat → Nat) (E : Nat → Int64) (nf : Nat) (tf : Nat → Int64) (hn hs : Nat → Int32) (rt : Nat → Int64) (dn : Bool) (wm cr : Int32) (cd : Bool) (pf : Nat → Int64) (pl : Nat) (O : Nat → Int64) (ol : Nat) (rw : Nat → Int64) (rl : Nat) (wh : Nat → Int64) (th : Nat → Int32) (L : Nat) (sz : Nat → Nat) (Lp : List Int64) (T : Nat → Nat → Int64) (x : Int32) (hap : tl_ap bd 11) (hI : tl_G nf hn hs L sz pf pl Lp ol T tf) : Met l y_M_order (k_M_order :: tl_ws) { frames := 0, cells := 0, slots := 0, locals := 0 } (tl_Pc D cJ cI cG cZ [.ref (bd 0), .int (x)] (fun H => va_P D tl_cl (tl_V cJ cI cZ bd E nf tf hn hs rt dn wm cr cd pf pl O ol rw rl wh th) H)) (tl_Qi ((tl_order x (E, nf, T, L, sz, rt, dn, wm, cr, Lp, ol, O)).1) (fun H => tl_Y D cJ cI cZ bd (tl_order x (E, nf, T, L, sz, rt, dn, wm, cr, Lp, ol, O)).2 H) (tl_in bd 11)) 0 0 (tl_in bd 11) := by
  refine Met.ofW (cc := b_M_order) (maxL := 2) (ret := (some .boolean)) (by decide) rfl ?_
  intro p e s m args below meth c s₁ B hml hv
  obtain ⟨rfl, hE, hP⟩ := hv
  have hx := B.exec
  have hb := B.bytes
  have hr := B.returns
  have hw : ∀ w ∈ tl_ws, w.before ([.ref (bd 0), .int (x)] : List Value).toArray s = true := fun w h => atoms_spec (ws := k_M_order :: tl_ws) B.pre w (List.mem_cons_of_mem _ h)
  have hown : s.vm.findClass R_M = some m.cls := findClass_of_methodNamed B.named
  have hlocks := B.notSynchronized
  have hl := lv_entry ([.ref (bd 0), .int (x)]) (n := 2) (Nat.le_of_ble_eq_true rfl)
  rw [lg_entry_eq]
  generalize (lg_sl ([.ref (bd 0), .int (x)]) ++ List.replicate (2 - (lg_sl ([.ref (bd 0), .int (x)])).length) Slot.unset).toArray = ls at hl ⊢
  have hl : lv_has ls 2 [(0, .ref (bd 0)), (1, .int (x))] := hl
  have hP : va_P D tl_cl (tl_V cJ cI cZ bd E nf tf hn hs rt dn wm cr cd pf pl O ol rw rl wh th) s.heap := hP
  have hS : va_S (tl_in bd 11) s.heap s.heap [] := va_S.rf
  have hI0 := hI
  obtain ⟨⟨hnf, hL, hh, hz, hsz, hpl, hpf, hp7, hol⟩, hsz0, htf⟩ := hI
  have hpub : tl_pub L sz ≤ 64 := Nat.le_trans (tl_pub_le hsz) hnf
  have hb0 := tl_num_le L 0
  have hb1 := tl_num_le L 1
  refine lv_iload_n hx hb d_M_order_0 rfl (lv_at hl 1 rfl) ?_
  refine lv_if_lt (tgt := 10) hx hb d_M_order_1 (by decide) (fun h1 => ?_) (fun h1 => ?_)
  · -- 1 t
    refine lv_iconst (v := (nI (0))) hx hb d_M_order_10 (by decide) ?_
    have hsp : tl_order x (E, nf, T, L, sz, rt, dn, wm, cr, Lp, ol, O) = (tl_bi false, (E, nf, T, L, sz, rt, dn, wm, cr, Lp, ol, O)) := by unfold tl_order; dsimp only; first | (rw [if_pos h1]; done) | rw [if_neg h1, if_neg h7]
    refine lv_topi (nm_r (e' := (tl_order x (E, nf, T, L, sz, rt, dn, wm, cr, Lp, ol, O)).1) (by rw [hsp]; rfl) ?_)
    exact W.zret hx hb hr (by rw [hsp]; exact tl_bi_nar _) (fun t9 ht9 _ => tl_endI hS (by show tl_Y D cJ cI cZ bd (tl_order x (E, nf, T, L, sz, rt, dn, wm, cr, Lp, ol, O)).2 _; rw [hsp]; exact ⟨tf, hn, hs, cd, pf, pl, rw, rl, wh, th, hI0, hP⟩) ht9) hS.2.2 d_M_order_11
  · -- 1 f
    refine lv_iload_n hx hb d_M_order_4 rfl (lv_at hl 1 rfl) ?_
    refine lv_bipush (v := (nI (20))) hx hb d_M_order_5 (by decide) ?_
    refine lv_icmp_le (tgt := 12) hx hb d_M_order_7 (by decide) (fun h7 => ?_) (fun h7 => ?_)
    · -- 7 t
      refine lv_aload_n hx hb d_M_order_12 rfl (lv_at hl 0 rfl) ?_
      refine lv_iload_n hx hb d_M_order_13 rfl (lv_at hl 1 rfl) ?_
      refine va_put (ci := 2) (v := .int (x)) (ty := .int) (C := R_M) (T := F_M) (N := 18) hx hb hw iw_M ft_M ft_M_ok n_M hown hE.1 hP (tl_DV hap) hS 0 rfl rfl 8 (by decide) (hw _ tl_m208) (fun _ h9 => h9) rfl (by decide +kernel) rfl rfl (Nat.le_of_ble_eq_true rfl) d_M_order_14 (fun H locs hP _ hS => ?_)
      have hP : va_P D tl_cl (tl_V cJ cI cZ bd E nf tf hn hs rt dn wm x cd pf pl O ol rw rl wh th) H := hP
      refine lv_iconst (v := (nI (1))) hx hb d_M_order_17 (by decide) ?_
      have hsp : tl_order x (E, nf, T, L, sz, rt, dn, wm, cr, Lp, ol, O) = (tl_bi true, (E, nf, T, L, sz, rt, dn, wm, x, Lp, ol, O)) := by unfold tl_order; dsimp only; rw [if_neg h1, if_pos h7]
      refine lv_topi (nm_r (e' := (tl_order x (E, nf, T, L, sz, rt, dn, wm, cr, Lp, ol, O)).1) (by rw [hsp]; rfl) ?_)
      exact W.zret hx hb hr (by rw [hsp]; exact tl_bi_nar _) (fun t9 ht9 _ => tl_endI hS (by show tl_Y D cJ cI cZ bd (tl_order x (E, nf, T, L, sz, rt, dn, wm, cr, Lp, ol, O)).2 _; rw [hsp]; exact ⟨tf, hn, hs, cd, pf, pl, rw, rl, wh, th, hI0, hP⟩) ht9) hS.2.2 d_M_order_18
    · -- 7 f
      refine lv_iconst (v := (nI (0))) hx hb d_M_order_10 (by decide) ?_
      have hsp : tl_order x (E, nf, T, L, sz, rt, dn, wm, cr, Lp, ol, O) = (tl_bi false, (E, nf, T, L, sz, rt, dn, wm, cr, Lp, ol, O)) := by unfold tl_order; dsimp only; first | (rw [if_pos h1]; done) | rw [if_neg h1, if_neg h7]
      refine lv_topi (nm_r (e' := (tl_order x (E, nf, T, L, sz, rt, dn, wm, cr, Lp, ol, O)).1) (by rw [hsp]; rfl) ?_)
      exact W.zret hx hb hr (by rw [hsp]; exact tl_bi_nar _) (fun t9 ht9 _ => tl_endI hS (by show tl_Y D cJ cI cZ bd (tl_order x (E, nf, T, L, sz, rt, dn, wm, cr, Lp, ol, O)).2 _; rw [hsp]; exact ⟨tf, hn, hs, cd, pf, pl, rw, rl, wh, th, hI0, hP⟩) ht9) hS.2.2 d_M_order_11

set_option maxHeartbeats 4000000 in
set_option maxRecDepth 100000 in
theorem c_M_offer (l : Launch) (D : va_G) (cJ cI cG cZ : ClassId) (bd : Nat → Nat) (E : Nat → Int64) (nf : Nat) (tf : Nat → Int64) (hn hs : Nat → Int32) (rt : Nat → Int64) (dn : Bool) (wm cr : Int32) (cd : Bool) (pf : Nat → Int64) (pl : Nat) (O : Nat → Int64) (ol : Nat) (rw : Nat → Int64) (rl : Nat) (wh : Nat → Int64) (th : Nat → Int32) (L : Nat) (sz : Nat → Nat) (Lp : List Int64) (T : Nat → Nat → Int64) (x : Int32) (y : Int64) (hap : tl_ap bd 11) (hI : tl_G nf hn hs L sz pf pl Lp ol T tf) : Met l y_M_offer (k_M_offer :: tl_ws) { frames := 0, cells := 0, slots := 0, locals := 0 } (tl_Pc D cJ cI cG cZ [.ref (bd 0), .int (x), .long (y)] (fun H => va_P D tl_cl (tl_V cJ cI cZ bd E nf tf hn hs rt dn wm cr cd pf pl O ol rw rl wh th) H)) (tl_Qi ((tl_offer x y (E, nf, T, L, sz, rt, dn, wm, cr, Lp, ol, O)).1) (fun H => tl_Y D cJ cI cZ bd (tl_offer x y (E, nf, T, L, sz, rt, dn, wm, cr, Lp, ol, O)).2 H) (tl_in bd 11)) 0 0 (tl_in bd 11) := by
  refine Met.ofW (cc := b_M_offer) (maxL := 4) (ret := (some .boolean)) (by decide) rfl ?_
  intro p e s m args below meth c s₁ B hml hv
  obtain ⟨rfl, hE, hP⟩ := hv
  have hx := B.exec
  have hb := B.bytes
  have hr := B.returns
  have hw : ∀ w ∈ tl_ws, w.before ([.ref (bd 0), .int (x), .long (y)] : List Value).toArray s = true := fun w h => atoms_spec (ws := k_M_offer :: tl_ws) B.pre w (List.mem_cons_of_mem _ h)
  have hown : s.vm.findClass R_M = some m.cls := findClass_of_methodNamed B.named
  have hlocks := B.notSynchronized
  have hl := lv_entry ([.ref (bd 0), .int (x), .long (y)]) (n := 4) (Nat.le_of_ble_eq_true rfl)
  rw [lg_entry_eq]
  generalize (lg_sl ([.ref (bd 0), .int (x), .long (y)]) ++ List.replicate (4 - (lg_sl ([.ref (bd 0), .int (x), .long (y)])).length) Slot.unset).toArray = ls at hl ⊢
  have hl : lv_has ls 4 [(0, .ref (bd 0)), (1, .int (x)), (2, .long (y))] := hl
  have hP : va_P D tl_cl (tl_V cJ cI cZ bd E nf tf hn hs rt dn wm cr cd pf pl O ol rw rl wh th) s.heap := hP
  have hS : va_S (tl_in bd 11) s.heap s.heap [] := va_S.rf
  have hI0 := hI
  obtain ⟨⟨hnf, hL, hh, hz, hsz, hpl, hpf, hp7, hol⟩, hsz0, htf⟩ := hI
  have hpub : tl_pub L sz ≤ 64 := Nat.le_trans (tl_pub_le hsz) hnf
  have hb0 := tl_num_le L 0
  have hb1 := tl_num_le L 1
  refine lv_iload_n hx hb d_M_offer_0 rfl (lv_at hl 1 rfl) ?_
  refine lv_if_lt (tgt := 10) hx hb d_M_offer_1 (by decide) (fun h1 => ?_) (fun h1 => ?_)
  · -- 1 t
    refine lv_iconst (v := (nI (0))) hx hb d_M_offer_10 (by decide) ?_
    have hsp : tl_offer x y (E, nf, T, L, sz, rt, dn, wm, cr, Lp, ol, O) = (tl_bi false, (E, nf, T, L, sz, rt, dn, wm, cr, Lp, ol, O)) := by unfold tl_offer; dsimp only; first | (rw [if_pos h1]; done) | rw [if_neg h1, if_neg (fun q => absurd (tl_78 (Int32.not_le.mp h7)) (Int32.not_le.mpr q))]
    refine lv_topi (nm_r (e' := (tl_offer x y (E, nf, T, L, sz, rt, dn, wm, cr, Lp, ol, O)).1) (by rw [hsp]; rfl) ?_)
    exact W.zret hx hb hr (by rw [hsp]; exact tl_bi_nar _) (fun t9 ht9 _ => tl_endI hS (by show tl_Y D cJ cI cZ bd (tl_offer x y (E, nf, T, L, sz, rt, dn, wm, cr, Lp, ol, O)).2 _; rw [hsp]; exact ⟨tf, hn, hs, cd, pf, pl, rw, rl, wh, th, hI0, hP⟩) ht9) hS.2.2 d_M_offer_11
  · -- 1 f
    refine lv_iload_n hx hb d_M_offer_4 rfl (lv_at hl 1 rfl) ?_
    refine lv_bipush (v := (nI (7))) hx hb d_M_offer_5 (by decide) ?_
    refine lv_icmp_le (tgt := 12) hx hb d_M_offer_7 (by decide) (fun h7 => ?_) (fun h7 => ?_)
    · -- 7 t
      obtain ⟨j, hj, rfl⟩ := tl_ixle (n := 7) (by omega) h1 (fun q => absurd h7 (Int32.not_le.mpr q))
      refine lv_aload_n hx hb d_M_offer_12 rfl (lv_at hl 0 rfl) ?_
      refine va_get (ci := 2) (v := .ref (bd 7)) (C := R_M) (T := F_M) (N := 18) hx hb hw iw_M hown hE.1 hP 0 rfl rfl 13 (by decide) (hw _ tl_m213) (fun _ h9 => h9) rfl d_M_offer_13 ?_
      refine lv_iload_n hx hb d_M_offer_16 rfl (lv_at hl 1 rfl) ?_
      refine lv_lload_n hx hb d_M_offer_17 rfl (lv_at hl 2 rfl) ?_
      refine tl_last (a := j) hx hb hE.1 hP (tl_DV hap) hS 7 0 rfl rfl (by omega) (by decide) d_M_offer_18 (fun H locs hP hS => ?_)
      have hP : va_P D tl_cl (tl_V cJ cI cZ bd E nf tf hn hs rt dn wm cr cd pf pl (vp_updL O j (y)) ol rw rl wh th) H := hP
      refine lv_iconst (v := (nI (1))) hx hb d_M_offer_19 (by decide) ?_
      have hsp : tl_offer (nI (j)) y (E, nf, T, L, sz, rt, dn, wm, cr, Lp, ol, O) = (tl_bi true, (E, nf, T, L, sz, rt, dn, wm, cr, Lp, ol, vp_updL O j y)) := by unfold tl_offer; dsimp only; rw [if_neg h1, if_pos ((nI_ltI (by omega) (by decide)).mpr (by omega)), nI_clamp (by omega)]
      refine lv_topi (nm_r (e' := (tl_offer (nI (j)) y (E, nf, T, L, sz, rt, dn, wm, cr, Lp, ol, O)).1) (by rw [hsp]; rfl) ?_)
      exact W.zret hx hb hr (by rw [hsp]; exact tl_bi_nar _) (fun t9 ht9 _ => tl_endI hS (by show tl_Y D cJ cI cZ bd (tl_offer (nI (j)) y (E, nf, T, L, sz, rt, dn, wm, cr, Lp, ol, O)).2 _; rw [hsp]; exact ⟨tf, hn, hs, cd, pf, pl, rw, rl, wh, th, hI0, hP⟩) ht9) hS.2.2 d_M_offer_20
    · -- 7 f
      refine lv_iconst (v := (nI (0))) hx hb d_M_offer_10 (by decide) ?_
      have hsp : tl_offer x y (E, nf, T, L, sz, rt, dn, wm, cr, Lp, ol, O) = (tl_bi false, (E, nf, T, L, sz, rt, dn, wm, cr, Lp, ol, O)) := by unfold tl_offer; dsimp only; first | (rw [if_pos h1]; done) | rw [if_neg h1, if_neg (fun q => absurd (tl_78 (Int32.not_le.mp h7)) (Int32.not_le.mpr q))]
      refine lv_topi (nm_r (e' := (tl_offer x y (E, nf, T, L, sz, rt, dn, wm, cr, Lp, ol, O)).1) (by rw [hsp]; rfl) ?_)
      exact W.zret hx hb hr (by rw [hsp]; exact tl_bi_nar _) (fun t9 ht9 _ => tl_endI hS (by show tl_Y D cJ cI cZ bd (tl_offer x y (E, nf, T, L, sz, rt, dn, wm, cr, Lp, ol, O)).2 _; rw [hsp]; exact ⟨tf, hn, hs, cd, pf, pl, rw, rl, wh, th, hI0, hP⟩) ht9) hS.2.2 d_M_offer_11

set_option maxHeartbeats 4000000 in
set_option maxRecDepth 100000 in
theorem c_M_offers (l : Launch) (D : va_G) (cJ cI cG cZ : ClassId) (bd : Nat → Nat) (E : Nat → Int64) (nf : Nat) (tf : Nat → Int64) (hn hs : Nat → Int32) (rt : Nat → Int64) (dn : Bool) (wm cr : Int32) (cd : Bool) (pf : Nat → Int64) (pl : Nat) (O : Nat → Int64) (ol : Nat) (rw : Nat → Int64) (rl : Nat) (wh : Nat → Int64) (th : Nat → Int32) (L : Nat) (sz : Nat → Nat) (Lp : List Int64) (T : Nat → Nat → Int64) (x : Int32) (hap : tl_ap bd 11) (hI : tl_G nf hn hs L sz pf pl Lp ol T tf) : Met l y_M_offers (k_M_offers :: tl_ws) { frames := 0, cells := 0, slots := 0, locals := 0 } (tl_Pc D cJ cI cG cZ [.ref (bd 0), .int (x)] (fun H => va_P D tl_cl (tl_V cJ cI cZ bd E nf tf hn hs rt dn wm cr cd pf pl O ol rw rl wh th) H)) (tl_Qi ((tl_offers x (E, nf, T, L, sz, rt, dn, wm, cr, Lp, ol, O)).1) (fun H => tl_Y D cJ cI cZ bd (tl_offers x (E, nf, T, L, sz, rt, dn, wm, cr, Lp, ol, O)).2 H) (tl_in bd 11)) 0 0 (tl_in bd 11) := by
  refine Met.ofW (cc := b_M_offers) (maxL := 2) (ret := (some .boolean)) (by decide) rfl ?_
  intro p e s m args below meth c s₁ B hml hv
  obtain ⟨rfl, hE, hP⟩ := hv
  have hx := B.exec
  have hb := B.bytes
  have hr := B.returns
  have hw : ∀ w ∈ tl_ws, w.before ([.ref (bd 0), .int (x)] : List Value).toArray s = true := fun w h => atoms_spec (ws := k_M_offers :: tl_ws) B.pre w (List.mem_cons_of_mem _ h)
  have hown : s.vm.findClass R_M = some m.cls := findClass_of_methodNamed B.named
  have hlocks := B.notSynchronized
  have hl := lv_entry ([.ref (bd 0), .int (x)]) (n := 2) (Nat.le_of_ble_eq_true rfl)
  rw [lg_entry_eq]
  generalize (lg_sl ([.ref (bd 0), .int (x)]) ++ List.replicate (2 - (lg_sl ([.ref (bd 0), .int (x)])).length) Slot.unset).toArray = ls at hl ⊢
  have hl : lv_has ls 2 [(0, .ref (bd 0)), (1, .int (x))] := hl
  have hP : va_P D tl_cl (tl_V cJ cI cZ bd E nf tf hn hs rt dn wm cr cd pf pl O ol rw rl wh th) s.heap := hP
  have hS : va_S (tl_in bd 11) s.heap s.heap [] := va_S.rf
  have hI0 := hI
  obtain ⟨⟨hnf, hL, hh, hz, hsz, hpl, hpf, hp7, hol⟩, hsz0, htf⟩ := hI
  have hpub : tl_pub L sz ≤ 64 := Nat.le_trans (tl_pub_le hsz) hnf
  have hb0 := tl_num_le L 0
  have hb1 := tl_num_le L 1
  refine lv_iload_n hx hb d_M_offers_0 rfl (lv_at hl 1 rfl) ?_
  refine lv_if_lt (tgt := 10) hx hb d_M_offers_1 (by decide) (fun h1 => ?_) (fun h1 => ?_)
  · -- 1 t
    refine lv_iconst (v := (nI (0))) hx hb d_M_offers_10 (by decide) ?_
    have hsp : tl_offers x (E, nf, T, L, sz, rt, dn, wm, cr, Lp, ol, O) = (tl_bi false, (E, nf, T, L, sz, rt, dn, wm, cr, Lp, ol, O)) := by unfold tl_offers; dsimp only; first | (rw [if_pos h1]; done) | rw [if_neg h1, if_neg h7]
    refine lv_topi (nm_r (e' := (tl_offers x (E, nf, T, L, sz, rt, dn, wm, cr, Lp, ol, O)).1) (by rw [hsp]; rfl) ?_)
    exact W.zret hx hb hr (by rw [hsp]; exact tl_bi_nar _) (fun t9 ht9 _ => tl_endI hS (by show tl_Y D cJ cI cZ bd (tl_offers x (E, nf, T, L, sz, rt, dn, wm, cr, Lp, ol, O)).2 _; rw [hsp]; exact ⟨tf, hn, hs, cd, pf, pl, rw, rl, wh, th, hI0, hP⟩) ht9) hS.2.2 d_M_offers_11
  · -- 1 f
    refine lv_iload_n hx hb d_M_offers_4 rfl (lv_at hl 1 rfl) ?_
    refine lv_bipush (v := (nI (8))) hx hb d_M_offers_5 (by decide) ?_
    refine lv_icmp_le (tgt := 12) hx hb d_M_offers_7 (by decide) (fun h7 => ?_) (fun h7 => ?_)
    · -- 7 t
      obtain ⟨j, hj, rfl⟩ := tl_ixle (n := 8) (by omega) h1 (fun q => absurd h7 (Int32.not_le.mpr q))
      refine lv_aload_n hx hb d_M_offers_12 rfl (lv_at hl 0 rfl) ?_
      refine lv_iload_n hx hb d_M_offers_13 rfl (lv_at hl 1 rfl) ?_
      refine va_put (ci := 2) (v := .int (nI (j))) (ty := .int) (C := R_M) (T := F_M) (N := 18) hx hb hw iw_M ft_M ft_M_ok n_M hown hE.1 hP (tl_DV hap) hS 0 rfl rfl 12 (by decide) (hw _ tl_m212) (fun _ h9 => h9) rfl (by decide +kernel) rfl rfl (Nat.le_of_ble_eq_true rfl) d_M_offers_14 (fun H locs hP _ hS => ?_)
      have hP : va_P D tl_cl (tl_V cJ cI cZ bd E nf tf hn hs rt dn wm cr cd pf pl O j rw rl wh th) H := hP
      refine lv_iconst (v := (nI (1))) hx hb d_M_offers_17 (by decide) ?_
      have hsp : tl_offers (nI (j)) (E, nf, T, L, sz, rt, dn, wm, cr, Lp, ol, O) = (tl_bi true, (E, nf, T, L, sz, rt, dn, wm, cr, Lp, j, O)) := by unfold tl_offers; dsimp only; rw [if_neg h1, if_pos h7, nI_clamp (by omega)]
      refine lv_topi (nm_r (e' := (tl_offers (nI (j)) (E, nf, T, L, sz, rt, dn, wm, cr, Lp, ol, O)).1) (by rw [hsp]; rfl) ?_)
      exact W.zret hx hb hr (by rw [hsp]; exact tl_bi_nar _) (fun t9 ht9 _ => tl_endI hS (by show tl_Y D cJ cI cZ bd (tl_offers (nI (j)) (E, nf, T, L, sz, rt, dn, wm, cr, Lp, ol, O)).2 _; rw [hsp]; exact ⟨tf, hn, hs, cd, pf, pl, rw, rl, wh, th, ⟨⟨hnf, hL, hh, hz, hsz, hpl, hpf, hp7, hj⟩, hsz0, htf⟩, hP⟩) ht9) hS.2.2 d_M_offers_18
    · -- 7 f
      refine lv_iconst (v := (nI (0))) hx hb d_M_offers_10 (by decide) ?_
      have hsp : tl_offers x (E, nf, T, L, sz, rt, dn, wm, cr, Lp, ol, O) = (tl_bi false, (E, nf, T, L, sz, rt, dn, wm, cr, Lp, ol, O)) := by unfold tl_offers; dsimp only; first | (rw [if_pos h1]; done) | rw [if_neg h1, if_neg h7]
      refine lv_topi (nm_r (e' := (tl_offers x (E, nf, T, L, sz, rt, dn, wm, cr, Lp, ol, O)).1) (by rw [hsp]; rfl) ?_)
      exact W.zret hx hb hr (by rw [hsp]; exact tl_bi_nar _) (fun t9 ht9 _ => tl_endI hS (by show tl_Y D cJ cI cZ bd (tl_offers x (E, nf, T, L, sz, rt, dn, wm, cr, Lp, ol, O)).2 _; rw [hsp]; exact ⟨tf, hn, hs, cd, pf, pl, rw, rl, wh, th, hI0, hP⟩) ht9) hS.2.2 d_M_offers_11

set_option maxHeartbeats 4000000 in
set_option maxRecDepth 100000 in
theorem c_M_append (l : Launch) (D : va_G) (cJ cI cG cZ : ClassId) (bd : Nat → Nat) (E : Nat → Int64) (nf : Nat) (tf : Nat → Int64) (hn hs : Nat → Int32) (rt : Nat → Int64) (dn : Bool) (wm cr : Int32) (cd : Bool) (pf : Nat → Int64) (pl : Nat) (O : Nat → Int64) (ol : Nat) (rw : Nat → Int64) (rl : Nat) (wh : Nat → Int64) (th : Nat → Int32) (L : Nat) (sz : Nat → Nat) (Lp : List Int64) (T : Nat → Nat → Int64) (x : Int64) (hap : tl_ap bd 11) (hI : tl_G nf hn hs L sz pf pl Lp ol T tf) : Met l y_M_append (k_M_append :: tl_ws) { frames := 1, cells := 0, slots := 0, locals := 20 } (tl_Pc D cJ cI cG cZ [.ref (bd 0), .long (x)] (fun H => va_P D tl_cl (tl_V cJ cI cZ bd E nf tf hn hs rt dn wm cr cd pf pl O ol rw rl wh th) H)) (tl_Qi ((tl_append x (E, nf, T, L, sz, rt, dn, wm, cr, Lp, ol, O)).1) (fun H => tl_Y D cJ cI cZ bd (tl_append x (E, nf, T, L, sz, rt, dn, wm, cr, Lp, ol, O)).2 H) (tl_in bd 11)) 0 0 (tl_in bd 11) := by
  refine Met.ofW (cc := b_M_append) (maxL := 3) (ret := (some .int)) (by decide) rfl ?_
  intro p e s m args below meth c s₁ B hml hv
  obtain ⟨rfl, hE, hP⟩ := hv
  have hx := B.exec
  have hb := B.bytes
  have hr := B.returns
  have hw : ∀ w ∈ tl_ws, w.before ([.ref (bd 0), .long (x)] : List Value).toArray s = true := fun w h => atoms_spec (ws := k_M_append :: tl_ws) B.pre w (List.mem_cons_of_mem _ h)
  have hown : s.vm.findClass R_M = some m.cls := findClass_of_methodNamed B.named
  have hlocks := B.notSynchronized
  have hl := lv_entry ([.ref (bd 0), .long (x)]) (n := 3) (Nat.le_of_ble_eq_true rfl)
  rw [lg_entry_eq]
  generalize (lg_sl ([.ref (bd 0), .long (x)]) ++ List.replicate (3 - (lg_sl ([.ref (bd 0), .long (x)])).length) Slot.unset).toArray = ls at hl ⊢
  have hl : lv_has ls 3 [(0, .ref (bd 0)), (1, .long (x))] := hl
  have hP : va_P D tl_cl (tl_V cJ cI cZ bd E nf tf hn hs rt dn wm cr cd pf pl O ol rw rl wh th) s.heap := hP
  have hS : va_S (tl_in bd 11) s.heap s.heap [] := va_S.rf
  have hI0 := hI
  obtain ⟨⟨hnf, hL, hh, hz, hsz, hpl, hpf, hp7, hol⟩, hsz0, htf⟩ := hI
  have hpub : tl_pub L sz ≤ 64 := Nat.le_trans (tl_pub_le hsz) hnf
  have hb0 := tl_num_le L 0
  have hb1 := tl_num_le L 1
  refine lv_aload_n hx hb d_M_append_0 rfl (lv_at hl 0 rfl) ?_
  refine va_get (ci := 2) (v := .int (tl_bi (dn))) (C := R_M) (T := F_M) (N := 18) hx hb hw iw_M hown hE.1 hP 0 rfl rfl 6 (by decide) (hw _ tl_m206) (fun _ h9 => h9) rfl d_M_append_1 ?_
  refine tl_beq (tgt := 10) hx hb d_M_append_4 (by decide) (fun h4 => ?_) (fun h4 => ?_)
  · -- 4 t
    refine lv_aload_n hx hb d_M_append_10 rfl (lv_at hl 0 rfl) ?_
    refine va_get (ci := 2) (v := .int (nI (nf))) (C := R_M) (T := F_M) (N := 18) hx hb hw iw_M hown hE.1 hP 0 rfl rfl 0 (by decide) (hw _ tl_m200) (fun _ h9 => h9) rfl d_M_append_11 ?_
    refine lv_bipush (v := (nI (64))) hx hb d_M_append_14 (by decide) ?_
    refine tl_cne (tgt := 21) (by omega) (by omega) hx hb d_M_append_16 (by decide) (fun h16 => ?_) (fun h16 => ?_)
    · -- 16 t
      refine lv_aload_n hx hb d_M_append_21 rfl (lv_at hl 0 rfl) ?_
      refine lv_iconst (v := (nI (0))) hx hb d_M_append_22 (by decide) ?_
      refine va_put (ci := 2) (v := .int (tl_bi (false))) (ty := .boolean) (C := R_M) (T := F_M) (N := 18) hx hb hw iw_M ft_M ft_M_ok n_M hown hE.1 hP (tl_DV hap) hS 0 rfl rfl 9 (by decide) (hw _ tl_m209) (fun _ h9 => h9) rfl (by decide +kernel) (tl_bi_nar _) (tl_bi_fit _) (Nat.le_of_ble_eq_true rfl) d_M_append_23 (fun H locs hP _ hS => ?_)
      have hP : va_P D tl_cl (tl_V cJ cI cZ bd E nf tf hn hs rt dn wm cr false pf pl O ol rw rl wh th) H := hP
      refine lv_aload_n hx hb d_M_append_26 rfl (lv_at hl 0 rfl) ?_
      refine tl_doI (v := (tl_bi (tl_wB cr))) (va_runV (As := []) (rest := []) ⟨hx, hb, hml, hown, hw⟩ (c_M_write l D cJ cI cG cZ bd E nf tf hn hs rt dn wm cr pf pl O ol rw rl wh th hap) (⟨tl_cB hw tl_m225 tl_m3 tl_m223 dd_M_write rfl rfl ⟨Nat.le_of_ble_eq_true rfl, Nat.le_of_ble_eq_true rfl⟩, hw _ tl_m224, hw _ tl_m369⟩) (tl_preV hE hP (va_recv (q0 := 0) (ci := 2) (q := (R_M, F_M, 18)) hE.1 hP rfl rfl)) rfl rfl hl.1 rfl (lv_room (Nat.le_of_ble_eq_true rfl)) d_M_append_27 ⟨Nat.zero_le _, Nat.zero_le _⟩) hS (fun _ h => h) (fun H locs hP hS _ => ?_)
      have hP : va_P D tl_cl (tl_V cJ cI cZ bd E nf tf hn hs rt (tl_wD cr dn) (tl_wW cr wm) (tl_wC cr) (!tl_wB cr) pf pl O ol rw rl wh th) H := hP
      refine tl_bne (tgt := 36) hx hb d_M_append_30 (by decide) (fun h30 => ?_) (fun h30 => ?_)
      · -- 30 t
        have hc := tl_wB_t h30
        rw [tl_wDn hc, tl_wWn hc, tl_wCn hc, tl_wB1 hc] at hP
        have hP : va_P D tl_cl (tl_V cJ cI cZ bd E nf tf hn hs rt dn (wm + 1) (tl_dec cr) false pf pl O ol rw rl wh th) H := hP
        refine lv_aload_n hx hb d_M_append_36 rfl (lv_at hl 0 rfl) ?_
        refine va_get (ci := 2) (v := .ref (bd 1)) (C := R_M) (T := F_M) (N := 18) hx hb hw iw_M hown hE.1 hP 0 rfl rfl 1 (by decide) (hw _ tl_m201) (fun _ h9 => h9) rfl d_M_append_37 ?_
        refine lv_aload_n hx hb d_M_append_40 rfl (lv_at hl 0 rfl) ?_
        refine va_get (ci := 2) (v := .int (nI (nf))) (C := R_M) (T := F_M) (N := 18) hx hb hw iw_M hown hE.1 hP 0 rfl rfl 0 (by decide) (hw _ tl_m200) (fun _ h9 => h9) rfl d_M_append_41 ?_
        refine lv_lload_n hx hb d_M_append_44 rfl (lv_at hl 1 rfl) ?_
        refine tl_last (a := nf) hx hb hE.1 hP (tl_DV hap) hS 1 0 rfl rfl (by omega) (by decide) d_M_append_45 (fun H locs hP hS => ?_)
        have hP : va_P D tl_cl (tl_V cJ cI cZ bd (vp_updL E nf (x)) nf tf hn hs rt dn (wm + 1) (tl_dec cr) false pf pl O ol rw rl wh th) H := hP
        refine lv_aload_n hx hb d_M_append_46 rfl (lv_at hl 0 rfl) ?_
        refine lv_aload_n hx hb d_M_append_47 rfl (lv_at hl 0 rfl) ?_
        refine va_get (ci := 2) (v := .int (nI (nf))) (C := R_M) (T := F_M) (N := 18) hx hb hw iw_M hown hE.1 hP 0 rfl rfl 0 (by decide) (hw _ tl_m200) (fun _ h9 => h9) rfl d_M_append_48 ?_
        refine lv_iconst (v := (nI (1))) hx hb d_M_append_51 (by decide) ?_
        refine lv_iadd hx hb d_M_append_52 ?_
        refine lv_topi (nm_r (e' := (nI (nf + 1))) (nI_add _ _) ?_)
        refine va_put (ci := 2) (v := .int (nI (nf + 1))) (ty := .int) (C := R_M) (T := F_M) (N := 18) hx hb hw iw_M ft_M ft_M_ok n_M hown hE.1 hP (tl_DV hap) hS 0 rfl rfl 0 (by decide) (hw _ tl_m200) (fun _ h9 => h9) rfl (by decide +kernel) rfl rfl (Nat.le_of_ble_eq_true rfl) d_M_append_53 (fun H locs hP _ hS => ?_)
        have hP : va_P D tl_cl (tl_V cJ cI cZ bd (vp_updL E nf (x)) (nf + 1) tf hn hs rt dn (wm + 1) (tl_dec cr) false pf pl O ol rw rl wh th) H := hP
        refine lv_aload_n hx hb d_M_append_56 rfl (lv_at hl 0 rfl) ?_
        refine va_get (ci := 2) (v := .int (nI (nf + 1))) (C := R_M) (T := F_M) (N := 18) hx hb hw iw_M hown hE.1 hP 0 rfl rfl 0 (by decide) (hw _ tl_m200) (fun _ h9 => h9) rfl d_M_append_57 ?_
        refine lv_iconst (v := (nI (1))) hx hb d_M_append_60 (by decide) ?_
        refine lv_isub hx hb d_M_append_61 ?_
        refine lv_topi (nm_r (e' := (nI ((nf + 1) - 1))) (pk_sub (by omega)) ?_)
        have hsp : tl_append x (E, nf, T, L, sz, rt, dn, wm, cr, Lp, ol, O) = (nI nf, (vp_updL E nf x, nf + 1, T, L, sz, rt, dn, wm + 1, tl_dec cr, Lp, ol, O)) := by unfold tl_append; dsimp only; rw [h4, if_neg (by decide), if_pos (by omega), if_neg hc]
        refine lv_topi (nm_r (e' := (tl_append x (E, nf, T, L, sz, rt, dn, wm, cr, Lp, ol, O)).1) (by rw [hsp]; first | done | rw [Nat.add_sub_cancel]) ?_)
        exact W.iret hx hb hr (fun t9 ht9 _ => tl_endI hS (by show tl_Y D cJ cI cZ bd (tl_append x (E, nf, T, L, sz, rt, dn, wm, cr, Lp, ol, O)).2 _; rw [hsp]; exact ⟨tf, hn, hs, false, pf, pl, rw, rl, wh, th, ⟨⟨by omega, hL, hh, hz, fun p hp => Nat.le_succ_of_le (hsz p hp), hpl, hpf, hp7, hol⟩, hsz0, htf⟩, hP⟩) ht9) hS.2.2 d_M_append_62
      · -- 30 f
        have hc := tl_wB_f h30
        rw [tl_wD0 hc, tl_wW0 hc, tl_wC0 hc, tl_wB0 hc] at hP
        have hP : va_P D tl_cl (tl_V cJ cI cZ bd E nf tf hn hs rt true wm (-1) true pf pl O ol rw rl wh th) H := hP
        refine lv_bipush (v := (-3)) hx hb d_M_append_33 (by decide) ?_
        have hsp : tl_append x (E, nf, T, L, sz, rt, dn, wm, cr, Lp, ol, O) = (-3, (E, nf, T, L, sz, rt, true, wm, -1, Lp, ol, O)) := by unfold tl_append; dsimp only; rw [h4, if_neg (by decide), if_pos (by omega), if_pos hc]
        refine lv_topi (nm_r (e' := (tl_append x (E, nf, T, L, sz, rt, dn, wm, cr, Lp, ol, O)).1) (by rw [hsp]; first | done | rw [Nat.add_sub_cancel]) ?_)
        exact W.iret hx hb hr (fun t9 ht9 _ => tl_endI hS (by show tl_Y D cJ cI cZ bd (tl_append x (E, nf, T, L, sz, rt, dn, wm, cr, Lp, ol, O)).2 _; rw [hsp]; exact ⟨tf, hn, hs, true, pf, pl, rw, rl, wh, th, hI0, hP⟩) ht9) hS.2.2 d_M_append_35
    · -- 16 f
      refine lv_iconst (v := (-1)) hx hb d_M_append_19 (by decide) ?_
      have hsp : tl_append x (E, nf, T, L, sz, rt, dn, wm, cr, Lp, ol, O) = (-1, (E, nf, T, L, sz, rt, dn, wm, cr, Lp, ol, O)) := by unfold tl_append; dsimp only; rw [h4, if_neg (by decide), if_neg (by omega)]
      refine lv_topi (nm_r (e' := (tl_append x (E, nf, T, L, sz, rt, dn, wm, cr, Lp, ol, O)).1) (by rw [hsp]; first | done | rw [Nat.add_sub_cancel]) ?_)
      exact W.iret hx hb hr (fun t9 ht9 _ => tl_endI hS (by show tl_Y D cJ cI cZ bd (tl_append x (E, nf, T, L, sz, rt, dn, wm, cr, Lp, ol, O)).2 _; rw [hsp]; exact ⟨tf, hn, hs, cd, pf, pl, rw, rl, wh, th, hI0, hP⟩) ht9) hS.2.2 d_M_append_20
  · -- 4 f
    refine lv_bipush (v := (-2)) hx hb d_M_append_7 (by decide) ?_
    have hsp : tl_append x (E, nf, T, L, sz, rt, dn, wm, cr, Lp, ol, O) = (-2, (E, nf, T, L, sz, rt, dn, wm, cr, Lp, ol, O)) := by unfold tl_append; dsimp only; rw [h4]; rfl
    refine lv_topi (nm_r (e' := (tl_append x (E, nf, T, L, sz, rt, dn, wm, cr, Lp, ol, O)).1) (by rw [hsp]; first | done | rw [Nat.add_sub_cancel]) ?_)
    exact W.iret hx hb hr (fun t9 ht9 _ => tl_endI hS (by show tl_Y D cJ cI cZ bd (tl_append x (E, nf, T, L, sz, rt, dn, wm, cr, Lp, ol, O)).2 _; rw [hsp]; exact ⟨tf, hn, hs, cd, pf, pl, rw, rl, wh, th, hI0, hP⟩) ht9) hS.2.2 d_M_append_9

set_option maxHeartbeats 4000000 in
set_option maxRecDepth 100000 in
theorem c_M_recover (l : Launch) (D : va_G) (cJ cI cG cZ : ClassId) (bd : Nat → Nat) (E : Nat → Int64) (nf : Nat) (tf : Nat → Int64) (hn hs : Nat → Int32) (rt : Nat → Int64) (dn : Bool) (wm cr : Int32) (cd : Bool) (pf : Nat → Int64) (pl : Nat) (O : Nat → Int64) (ol : Nat) (rw : Nat → Int64) (rl : Nat) (wh : Nat → Int64) (th : Nat → Int32) (L : Nat) (sz : Nat → Nat) (Lp : List Int64) (T : Nat → Nat → Int64)  (hap : tl_ap bd 11) (hI : tl_G nf hn hs L sz pf pl Lp ol T tf) : Met l y_M_recover (k_M_recover :: tl_ws) { frames := 5, cells := 0, slots := 0, locals := 123 } (tl_Pc D cJ cI cG cZ [.ref (bd 0)] (fun H => va_P D tl_cl (tl_V cJ cI cZ bd E nf tf hn hs rt dn wm cr cd pf pl O ol rw rl wh th) H)) (tl_Qi ((tl_recover (E, nf, T, L, sz, rt, dn, wm, cr, Lp, ol, O)).1) (fun H => tl_Y D cJ cI cZ bd (tl_recover (E, nf, T, L, sz, rt, dn, wm, cr, Lp, ol, O)).2 H) (tl_in bd 11)) 0 0 (tl_in bd 11) := by
  refine Met.ofW (cc := b_M_recover) (maxL := 1) (ret := (some .int)) (by decide) rfl ?_
  intro p e s m args below meth c s₁ B hml hv
  obtain ⟨rfl, hE, hP⟩ := hv
  have hx := B.exec
  have hb := B.bytes
  have hr := B.returns
  have hw : ∀ w ∈ tl_ws, w.before ([.ref (bd 0)] : List Value).toArray s = true := fun w h => atoms_spec (ws := k_M_recover :: tl_ws) B.pre w (List.mem_cons_of_mem _ h)
  have hown : s.vm.findClass R_M = some m.cls := findClass_of_methodNamed B.named
  have hlocks := B.notSynchronized
  have hl := lv_entry ([.ref (bd 0)]) (n := 1) (Nat.le_of_ble_eq_true rfl)
  rw [lg_entry_eq]
  generalize (lg_sl ([.ref (bd 0)]) ++ List.replicate (1 - (lg_sl ([.ref (bd 0)])).length) Slot.unset).toArray = ls at hl ⊢
  have hl : lv_has ls 1 [(0, .ref (bd 0))] := hl
  have hP : va_P D tl_cl (tl_V cJ cI cZ bd E nf tf hn hs rt dn wm cr cd pf pl O ol rw rl wh th) s.heap := hP
  have hS : va_S (tl_in bd 11) s.heap s.heap [] := va_S.rf
  have hI0 := hI
  obtain ⟨⟨hnf, hL, hh, hz, hsz, hpl, hpf, hp7, hol⟩, hsz0, htf⟩ := hI
  have hpub : tl_pub L sz ≤ 64 := Nat.le_trans (tl_pub_le hsz) hnf
  have hb0 := tl_num_le L 0
  have hb1 := tl_num_le L 1
  refine lv_aload_n hx hb d_M_recover_0 rfl (lv_at hl 0 rfl) ?_
  refine va_get (ci := 2) (v := .int (tl_bi (dn))) (C := R_M) (T := F_M) (N := 18) hx hb hw iw_M hown hE.1 hP 0 rfl rfl 6 (by decide) (hw _ tl_m206) (fun _ h9 => h9) rfl d_M_recover_1 ?_
  refine tl_bne (tgt := 9) hx hb d_M_recover_4 (by decide) (fun h4 => ?_) (fun h4 => ?_)
  · -- 4 t
    refine lv_aload_n hx hb d_M_recover_9 rfl (lv_at hl 0 rfl) ?_
    refine lv_iconst (v := (nI (0))) hx hb d_M_recover_10 (by decide) ?_
    refine va_put (ci := 2) (v := .int (tl_bi (false))) (ty := .boolean) (C := R_M) (T := F_M) (N := 18) hx hb hw iw_M ft_M ft_M_ok n_M hown hE.1 hP (tl_DV hap) hS 0 rfl rfl 9 (by decide) (hw _ tl_m209) (fun _ h9 => h9) rfl (by decide +kernel) (tl_bi_nar _) (tl_bi_fit _) (Nat.le_of_ble_eq_true rfl) d_M_recover_11 (fun H locs hP _ hS => ?_)
    have hP : va_P D tl_cl (tl_V cJ cI cZ bd E nf tf hn hs rt dn wm cr false pf pl O ol rw rl wh th) H := hP
    refine lv_aload_n hx hb d_M_recover_14 rfl (lv_at hl 0 rfl) ?_
    refine lv_aload_n hx hb d_M_recover_15 rfl (lv_at hl 0 rfl) ?_
    refine tl_goI (v := (nI (tl_pub L sz))) (va_runV (As := []) (rest := [.ref (bd 0)]) ⟨hx, hb, hml, hown, hw⟩ (c_M_published l D cJ cI cG cZ bd E nf tf hn hs rt dn wm cr false pf pl O ol rw rl wh th L sz Lp T  hI0) (⟨tl_cB hw tl_m232 tl_m3 tl_m230 dd_M_published rfl rfl ⟨Nat.le_of_ble_eq_true rfl, Nat.le_of_ble_eq_true rfl⟩, hw _ tl_m231, hw _ tl_m370⟩) (tl_preV hE hP (va_recv (q0 := 0) (ci := 2) (q := (R_M, F_M, 18)) hE.1 hP rfl rfl)) rfl rfl hl.1 rfl (lv_room (Nat.le_of_ble_eq_true rfl)) d_M_recover_16 ⟨Nat.zero_le _, Nat.zero_le _⟩) ?_
    refine tl_doV (va_runV (As := [.int (nI (tl_pub L sz))]) (rest := []) ⟨hx, hb, hml, hown, hw⟩ (c_M_putRight l D cJ cI cG cZ bd E nf tf hn hs rt dn wm cr pf pl O ol rw rl wh th T (tl_pub L sz) hap htf (by omega)) (⟨tl_cB hw tl_m238 tl_m3 tl_m236 dd_M_putRight rfl rfl ⟨Nat.le_of_ble_eq_true rfl, Nat.le_of_ble_eq_true rfl⟩, hw _ tl_m237, hw _ tl_m372⟩) (tl_preV hE hP (va_recv (q0 := 0) (ci := 2) (q := (R_M, F_M, 18)) hE.1 hP rfl rfl)) rfl rfl hl.1 rfl (lv_room (Nat.le_of_ble_eq_true rfl)) d_M_recover_19 ⟨Nat.zero_le _, Nat.zero_le _⟩) hS (fun _ h => h) (fun H locs hX hS _ => ?_)
    obtain ⟨tf9, wh9, th9, htf9, hP⟩ := hX
    have hP : va_P D tl_cl (tl_V cJ cI cZ bd E nf tf9 hn hs rt ((tl_put E (tl_pub L sz) 9 0 (T, cr, dn, wm)).2.2.2.1) ((tl_put E (tl_pub L sz) 9 0 (T, cr, dn, wm)).2.2.2.2) ((tl_put E (tl_pub L sz) 9 0 (T, cr, dn, wm)).2.2.1) (!(tl_put E (tl_pub L sz) 9 0 (T, cr, dn, wm)).1) pf pl O ol rw rl wh9 th9) H := hP
    have hI2 : tl_G nf hn hs L sz pf pl Lp ol (tl_put E (tl_pub L sz) 9 0 (T, cr, dn, wm)).2.1 tf9 := ⟨hI0.1, hI0.2.1, htf9⟩
    refine lv_aload_n hx hb d_M_recover_22 rfl (lv_at hl 0 rfl) ?_
    refine va_get (ci := 2) (v := .int (tl_bi (!(tl_put E (tl_pub L sz) 9 0 (T, cr, dn, wm)).1))) (C := R_M) (T := F_M) (N := 18) hx hb hw iw_M hown hE.1 hP 0 rfl rfl 9 (by decide) (hw _ tl_m209) (fun _ h9 => h9) rfl d_M_recover_23 ?_
    refine tl_beq (tgt := 32) hx hb d_M_recover_26 (by decide) (fun h26 => ?_) (fun h26 => ?_)
    · -- 26 t
      have hR : (tl_put E (tl_pub L sz) 9 0 (T, cr, dn, wm)).1 = true := by simpa using h26
      refine lv_aload_n hx hb d_M_recover_32 rfl (lv_at hl 0 rfl) ?_
      refine lv_iconst (v := (nI (0))) hx hb d_M_recover_33 (by decide) ?_
      refine va_put (ci := 2) (v := .int (tl_bi (false))) (ty := .boolean) (C := R_M) (T := F_M) (N := 18) hx hb hw iw_M ft_M ft_M_ok n_M hown hE.1 hP (tl_DV hap) hS 0 rfl rfl 6 (by decide) (hw _ tl_m206) (fun _ h9 => h9) rfl (by decide +kernel) (tl_bi_nar _) (tl_bi_fit _) (Nat.le_of_ble_eq_true rfl) d_M_recover_34 (fun H locs hP _ hS => ?_)
      have hP : va_P D tl_cl (tl_V cJ cI cZ bd E nf tf9 hn hs rt false ((tl_put E (tl_pub L sz) 9 0 (T, cr, dn, wm)).2.2.2.2) ((tl_put E (tl_pub L sz) 9 0 (T, cr, dn, wm)).2.2.1) (!(tl_put E (tl_pub L sz) 9 0 (T, cr, dn, wm)).1) pf pl O ol rw rl wh9 th9) H := hP
      refine lv_aload_n hx hb d_M_recover_37 rfl (lv_at hl 0 rfl) ?_
      refine va_get (ci := 2) (v := .int (nI (nf))) (C := R_M) (T := F_M) (N := 18) hx hb hw iw_M hown hE.1 hP 0 rfl rfl 0 (by decide) (hw _ tl_m200) (fun _ h9 => h9) rfl d_M_recover_38 ?_
      have hsp : tl_recover (E, nf, T, L, sz, rt, dn, wm, cr, Lp, ol, O) = (nI nf, (E, nf, (tl_put E (tl_pub L sz) 9 0 (T, cr, dn, wm)).2.1, L, sz, rt, false, (tl_put E (tl_pub L sz) 9 0 (T, cr, dn, wm)).2.2.2.2, (tl_put E (tl_pub L sz) 9 0 (T, cr, dn, wm)).2.2.1, Lp, ol, O)) := by unfold tl_recover; dsimp only; rw [if_pos h4]; unfold tl_recR; dsimp only; rw [hR]; rfl
      refine lv_topi (nm_r (e' := (tl_recover (E, nf, T, L, sz, rt, dn, wm, cr, Lp, ol, O)).1) (by rw [hsp]) ?_)
      exact W.iret hx hb hr (fun t9 ht9 _ => tl_endI hS (by show tl_Y D cJ cI cZ bd (tl_recover (E, nf, T, L, sz, rt, dn, wm, cr, Lp, ol, O)).2 _; rw [hsp]; exact ⟨tf9, hn, hs, (!(tl_put E (tl_pub L sz) 9 0 (T, cr, dn, wm)).1), pf, pl, rw, rl, wh9, th9, hI2, hP⟩) ht9) hS.2.2 d_M_recover_41
    · -- 26 f
      have hR : (tl_put E (tl_pub L sz) 9 0 (T, cr, dn, wm)).1 = false := by simpa using h26
      refine lv_bipush (v := (-3)) hx hb d_M_recover_29 (by decide) ?_
      have hsp : tl_recover (E, nf, T, L, sz, rt, dn, wm, cr, Lp, ol, O) = (-3, (E, nf, (tl_put E (tl_pub L sz) 9 0 (T, cr, dn, wm)).2.1, L, sz, rt, (tl_put E (tl_pub L sz) 9 0 (T, cr, dn, wm)).2.2.2.1, (tl_put E (tl_pub L sz) 9 0 (T, cr, dn, wm)).2.2.2.2, (tl_put E (tl_pub L sz) 9 0 (T, cr, dn, wm)).2.2.1, Lp, ol, O)) := by unfold tl_recover; dsimp only; rw [if_pos h4]; unfold tl_recR; dsimp only; rw [hR]; rfl
      refine lv_topi (nm_r (e' := (tl_recover (E, nf, T, L, sz, rt, dn, wm, cr, Lp, ol, O)).1) (by rw [hsp]) ?_)
      exact W.iret hx hb hr (fun t9 ht9 _ => tl_endI hS (by show tl_Y D cJ cI cZ bd (tl_recover (E, nf, T, L, sz, rt, dn, wm, cr, Lp, ol, O)).2 _; rw [hsp]; exact ⟨tf9, hn, hs, (!(tl_put E (tl_pub L sz) 9 0 (T, cr, dn, wm)).1), pf, pl, rw, rl, wh9, th9, hI2, hP⟩) ht9) hS.2.2 d_M_recover_31
  · -- 4 f
    refine lv_iconst (v := (-1)) hx hb d_M_recover_7 (by decide) ?_
    have hsp : tl_recover (E, nf, T, L, sz, rt, dn, wm, cr, Lp, ol, O) = (-1, (E, nf, T, L, sz, rt, dn, wm, cr, Lp, ol, O)) := by unfold tl_recover; dsimp only; rw [h4, if_neg (by decide)]
    refine lv_topi (nm_r (e' := (tl_recover (E, nf, T, L, sz, rt, dn, wm, cr, Lp, ol, O)).1) (by rw [hsp]) ?_)
    exact W.iret hx hb hr (fun t9 ht9 _ => tl_endI hS (by show tl_Y D cJ cI cZ bd (tl_recover (E, nf, T, L, sz, rt, dn, wm, cr, Lp, ol, O)).2 _; rw [hsp]; exact ⟨tf, hn, hs, cd, pf, pl, rw, rl, wh, th, hI0, hP⟩) ht9) hS.2.2 d_M_recover_8

set_option maxHeartbeats 4000000 in
set_option maxRecDepth 100000 in
theorem c_M_publish (l : Launch) (D : va_G) (cJ cI cG cZ : ClassId) (bd : Nat → Nat) (E : Nat → Int64) (nf : Nat) (tf : Nat → Int64) (hn hs : Nat → Int32) (rt : Nat → Int64) (dn : Bool) (wm cr : Int32) (cd : Bool) (pf : Nat → Int64) (pl : Nat) (O : Nat → Int64) (ol : Nat) (rw : Nat → Int64) (rl : Nat) (wh : Nat → Int64) (th : Nat → Int32) (L : Nat) (sz : Nat → Nat) (Lp : List Int64) (T : Nat → Nat → Int64)  (hap : tl_ap bd 11) (hI : tl_G nf hn hs L sz pf pl Lp ol T tf) (hL1 : L + 1 < 2 ^ 30) : Met l y_M_publish (k_M_publish :: tl_ws) { frames := 5, cells := 0, slots := 0, locals := 123 } (tl_Pc D cJ cI cG cZ [.ref (bd 0)] (fun H => va_P D tl_cl (tl_V cJ cI cZ bd E nf tf hn hs rt dn wm cr cd pf pl O ol rw rl wh th) H)) (tl_Qi ((tl_publish (E, nf, T, L, sz, rt, dn, wm, cr, Lp, ol, O)).1) (fun H => tl_Y D cJ cI cZ bd (tl_publish (E, nf, T, L, sz, rt, dn, wm, cr, Lp, ol, O)).2 H) (tl_in bd 11)) 0 0 (tl_in bd 11) := by
  refine Met.ofW (cc := b_M_publish) (maxL := 2) (ret := (some .int)) (by decide) rfl ?_
  intro p e s m args below meth c s₁ B hml hv
  obtain ⟨rfl, hE, hP⟩ := hv
  have hx := B.exec
  have hb := B.bytes
  have hr := B.returns
  have hw : ∀ w ∈ tl_ws, w.before ([.ref (bd 0)] : List Value).toArray s = true := fun w h => atoms_spec (ws := k_M_publish :: tl_ws) B.pre w (List.mem_cons_of_mem _ h)
  have hown : s.vm.findClass R_M = some m.cls := findClass_of_methodNamed B.named
  have hlocks := B.notSynchronized
  have hl := lv_entry ([.ref (bd 0)]) (n := 2) (Nat.le_of_ble_eq_true rfl)
  rw [lg_entry_eq]
  generalize (lg_sl ([.ref (bd 0)]) ++ List.replicate (2 - (lg_sl ([.ref (bd 0)])).length) Slot.unset).toArray = ls at hl ⊢
  have hl : lv_has ls 2 [(0, .ref (bd 0))] := hl
  have hP : va_P D tl_cl (tl_V cJ cI cZ bd E nf tf hn hs rt dn wm cr cd pf pl O ol rw rl wh th) s.heap := hP
  have hS : va_S (tl_in bd 11) s.heap s.heap [] := va_S.rf
  have hI0 := hI
  obtain ⟨⟨hnf, hL, hh, hz, hsz, hpl, hpf, hp7, hol⟩, hsz0, htf⟩ := hI
  have hpub : tl_pub L sz ≤ 64 := Nat.le_trans (tl_pub_le hsz) hnf
  have hb0 := tl_num_le L 0
  have hb1 := tl_num_le L 1
  refine lv_aload_n hx hb d_M_publish_0 rfl (lv_at hl 0 rfl) ?_
  refine va_get (ci := 2) (v := .int (tl_bi (dn))) (C := R_M) (T := F_M) (N := 18) hx hb hw iw_M hown hE.1 hP 0 rfl rfl 6 (by decide) (hw _ tl_m206) (fun _ h9 => h9) rfl d_M_publish_1 ?_
  refine tl_beq (tgt := 10) hx hb d_M_publish_4 (by decide) (fun h4 => ?_) (fun h4 => ?_)
  · -- 4 t
    refine lv_aload_n hx hb d_M_publish_10 rfl (lv_at hl 0 rfl) ?_
    refine lv_iconst (v := (nI (0))) hx hb d_M_publish_11 (by decide) ?_
    refine va_put (ci := 2) (v := .int (tl_bi (false))) (ty := .boolean) (C := R_M) (T := F_M) (N := 18) hx hb hw iw_M ft_M ft_M_ok n_M hown hE.1 hP (tl_DV hap) hS 0 rfl rfl 9 (by decide) (hw _ tl_m209) (fun _ h9 => h9) rfl (by decide +kernel) (tl_bi_nar _) (tl_bi_fit _) (Nat.le_of_ble_eq_true rfl) d_M_publish_12 (fun H locs hP _ hS => ?_)
    have hP : va_P D tl_cl (tl_V cJ cI cZ bd E nf tf hn hs rt dn wm cr false pf pl O ol rw rl wh th) H := hP
    refine lv_aload_n hx hb d_M_publish_15 rfl (lv_at hl 0 rfl) ?_
    refine va_get (ci := 2) (v := .int (nI (nf))) (C := R_M) (T := F_M) (N := 18) hx hb hw iw_M hown hE.1 hP 0 rfl rfl 0 (by decide) (hw _ tl_m200) (fun _ h9 => h9) rfl d_M_publish_16 ?_
    refine lv_aload_n hx hb d_M_publish_19 rfl (lv_at hl 0 rfl) ?_
    refine tl_goI (v := (nI (tl_pub L sz))) (va_runV (As := []) (rest := [.int (nI (nf))]) ⟨hx, hb, hml, hown, hw⟩ (c_M_published l D cJ cI cG cZ bd E nf tf hn hs rt dn wm cr false pf pl O ol rw rl wh th L sz Lp T  hI0) (⟨tl_cB hw tl_m232 tl_m3 tl_m230 dd_M_published rfl rfl ⟨Nat.le_of_ble_eq_true rfl, Nat.le_of_ble_eq_true rfl⟩, hw _ tl_m231, hw _ tl_m370⟩) (tl_preV hE hP (va_recv (q0 := 0) (ci := 2) (q := (R_M, F_M, 18)) hE.1 hP rfl rfl)) rfl rfl hl.1 rfl (lv_room (Nat.le_of_ble_eq_true rfl)) d_M_publish_20 ⟨Nat.zero_le _, Nat.zero_le _⟩) ?_
    refine tl_ceq (tgt := 93) (by omega) (by omega) hx hb d_M_publish_23 (by decide) (fun h23 => ?_) (fun h23 => ?_)
    · -- 23 t
      refine lv_aload_n hx hb d_M_publish_93 rfl (lv_at hl 0 rfl) ?_
      refine va_get (ci := 2) (v := .int (tl_bi (false))) (C := R_M) (T := F_M) (N := 18) hx hb hw iw_M hown hE.1 hP 0 rfl rfl 9 (by decide) (hw _ tl_m209) (fun _ h9 => h9) rfl d_M_publish_94 ?_
      refine tl_beq (v := false) (tgt := 105) hx hb d_M_publish_97 (by decide) (fun _ => ?_) (fun h => absurd h (by decide))
      refine lv_aload_n hx hb d_M_publish_105 rfl (lv_at hl 0 rfl) ?_
      refine tl_goI (v := (nI (L))) (va_runV (As := []) (rest := []) ⟨hx, hb, hml, hown, hw⟩ (c_M_latestNumber l D cJ cI cG cZ bd E nf tf hn hs rt dn wm cr false pf pl O ol rw rl wh th L sz Lp T  hI0) (⟨tl_cB hw tl_m260 tl_m3 tl_m258 dd_M_latestNumber rfl rfl ⟨Nat.le_of_ble_eq_true rfl, Nat.le_of_ble_eq_true rfl⟩, hw _ tl_m259, hw _ tl_m375⟩) (tl_preV hE hP (va_recv (q0 := 0) (ci := 2) (q := (R_M, F_M, 18)) hE.1 hP rfl rfl)) rfl rfl hl.1 rfl (lv_room (Nat.le_of_ble_eq_true rfl)) d_M_publish_106 ⟨Nat.zero_le _, Nat.zero_le _⟩) ?_
      have hsp : tl_publish (E, nf, T, L, sz, rt, dn, wm, cr, Lp, ol, O) = (nI L, (E, nf, T, L, sz, rt, dn, wm, cr, Lp, ol, O)) := by unfold tl_publish; dsimp only; rw [if_neg (by rw [h4]; decide), if_pos h23]
      refine lv_topi (nm_r (e' := (tl_publish (E, nf, T, L, sz, rt, dn, wm, cr, Lp, ol, O)).1) (by rw [hsp]) ?_)
      exact W.iret hx hb hr (fun t9 ht9 _ => tl_endI hS (by show tl_Y D cJ cI cZ bd (tl_publish (E, nf, T, L, sz, rt, dn, wm, cr, Lp, ol, O)).2 _; rw [hsp]; exact ⟨tf, hn, hs, false, pf, pl, rw, rl, wh, th, hI0, hP⟩) ht9) hS.2.2 d_M_publish_109
    · -- 23 f
      refine lv_aload_n hx hb d_M_publish_26 rfl (lv_at hl 0 rfl) ?_
      refine lv_aload_n hx hb d_M_publish_27 rfl (lv_at hl 0 rfl) ?_
      refine va_get (ci := 2) (v := .int (nI (nf))) (C := R_M) (T := F_M) (N := 18) hx hb hw iw_M hown hE.1 hP 0 rfl rfl 0 (by decide) (hw _ tl_m200) (fun _ h9 => h9) rfl d_M_publish_28 ?_
      refine tl_doV (va_runV (As := [.int (nI (nf))]) (rest := []) ⟨hx, hb, hml, hown, hw⟩ (c_M_putRight l D cJ cI cG cZ bd E nf tf hn hs rt dn wm cr pf pl O ol rw rl wh th T nf hap htf (by omega)) (⟨tl_cB hw tl_m238 tl_m3 tl_m236 dd_M_putRight rfl rfl ⟨Nat.le_of_ble_eq_true rfl, Nat.le_of_ble_eq_true rfl⟩, hw _ tl_m237, hw _ tl_m372⟩) (tl_preV hE hP (va_recv (q0 := 0) (ci := 2) (q := (R_M, F_M, 18)) hE.1 hP rfl rfl)) rfl rfl hl.1 rfl (lv_room (Nat.le_of_ble_eq_true rfl)) d_M_publish_31 ⟨Nat.zero_le _, Nat.zero_le _⟩) hS (fun _ h => h) (fun H locs hX hS _ => ?_)
      obtain ⟨tf9, wh9, th9, htf9, hP⟩ := hX
      have hP : va_P D tl_cl (tl_V cJ cI cZ bd E nf tf9 hn hs rt ((tl_put E nf 9 0 (T, cr, dn, wm)).2.2.2.1) ((tl_put E nf 9 0 (T, cr, dn, wm)).2.2.2.2) ((tl_put E nf 9 0 (T, cr, dn, wm)).2.2.1) (!(tl_put E nf 9 0 (T, cr, dn, wm)).1) pf pl O ol rw rl wh9 th9) H := hP
      have hI2 : tl_G nf hn hs L sz pf pl Lp ol (tl_put E nf 9 0 (T, cr, dn, wm)).2.1 tf9 := ⟨hI0.1, hI0.2.1, htf9⟩
      refine lv_aload_n hx hb d_M_publish_34 rfl (lv_at hl 0 rfl) ?_
      refine tl_goI (v := (nI (L))) (va_runV (As := []) (rest := []) ⟨hx, hb, hml, hown, hw⟩ (c_M_latestNumber l D cJ cI cG cZ bd E nf tf9 hn hs rt ((tl_put E nf 9 0 (T, cr, dn, wm)).2.2.2.1) ((tl_put E nf 9 0 (T, cr, dn, wm)).2.2.2.2) ((tl_put E nf 9 0 (T, cr, dn, wm)).2.2.1) (!(tl_put E nf 9 0 (T, cr, dn, wm)).1) pf pl O ol rw rl wh9 th9 L sz Lp (tl_put E nf 9 0 (T, cr, dn, wm)).2.1  hI2) (⟨tl_cB hw tl_m260 tl_m3 tl_m258 dd_M_latestNumber rfl rfl ⟨Nat.le_of_ble_eq_true rfl, Nat.le_of_ble_eq_true rfl⟩, hw _ tl_m259, hw _ tl_m375⟩) (tl_preV hE hP (va_recv (q0 := 0) (ci := 2) (q := (R_M, F_M, 18)) hE.1 hP rfl rfl)) rfl rfl hl.1 rfl (lv_room (Nat.le_of_ble_eq_true rfl)) d_M_publish_35 ⟨Nat.zero_le _, Nat.zero_le _⟩) ?_
      refine lv_iconst (v := (nI (1))) hx hb d_M_publish_38 (by decide) ?_
      refine lv_iadd hx hb d_M_publish_39 ?_
      refine lv_topi (nm_r (e' := (nI (L + 1))) (nI_add _ _) ?_)
      refine lv_istore_n (lv' := [(1, .int (nI (L + 1))), (0, .ref (bd 0))]) hx hb d_M_publish_40 rfl hl (by decide) rfl (fun ls hl => ?_)
      refine lv_aload_n hx hb d_M_publish_41 rfl (lv_at hl 1 rfl) ?_
      refine va_get (ci := 2) (v := .int (tl_bi (!(tl_put E nf 9 0 (T, cr, dn, wm)).1))) (C := R_M) (T := F_M) (N := 18) hx hb hw iw_M hown hE.1 hP 0 rfl rfl 9 (by decide) (hw _ tl_m209) (fun _ h9 => h9) rfl d_M_publish_42 ?_
      refine tl_bne (tgt := 93) hx hb d_M_publish_45 (by decide) (fun h45 => ?_) (fun h45 => ?_)
      · -- 45 t
        have hR : (tl_put E nf 9 0 (T, cr, dn, wm)).1 = false := by simpa using h45
        rw [h45] at hP
        refine lv_aload_n hx hb d_M_publish_93 rfl (lv_at hl 1 rfl) ?_
        refine va_get (ci := 2) (v := .int (tl_bi (true))) (C := R_M) (T := F_M) (N := 18) hx hb hw iw_M hown hE.1 hP 0 rfl rfl 9 (by decide) (hw _ tl_m209) (fun _ h9 => h9) rfl d_M_publish_94 ?_
        refine tl_beq (v := true) (tgt := 105) hx hb d_M_publish_97 (by decide) (fun h => absurd h (by decide)) (fun _ => ?_)
        refine lv_bipush (v := (-3)) hx hb d_M_publish_100 (by decide) ?_
        refine lv_goto (tgt := 109) hx hb d_M_publish_102 (by decide) ?_
        have hsp : tl_publish (E, nf, T, L, sz, rt, dn, wm, cr, Lp, ol, O) = (-3, (E, nf, (tl_put E nf 9 0 (T, cr, dn, wm)).2.1, L, sz, rt, (tl_put E nf 9 0 (T, cr, dn, wm)).2.2.2.1, (tl_put E nf 9 0 (T, cr, dn, wm)).2.2.2.2, (tl_put E nf 9 0 (T, cr, dn, wm)).2.2.1, Lp, ol, O)) := by unfold tl_publish; dsimp only; rw [if_neg (by rw [h4]; decide), if_neg h23]; unfold tl_pubR; dsimp only; rw [hR]; rfl
        refine lv_topi (nm_r (e' := (tl_publish (E, nf, T, L, sz, rt, dn, wm, cr, Lp, ol, O)).1) (by rw [hsp]) ?_)
        exact W.iret hx hb hr (fun t9 ht9 _ => tl_endI hS (by show tl_Y D cJ cI cZ bd (tl_publish (E, nf, T, L, sz, rt, dn, wm, cr, Lp, ol, O)).2 _; rw [hsp]; exact ⟨tf9, hn, hs, true, pf, pl, rw, rl, wh9, th9, hI2, hP⟩) ht9) hS.2.2 d_M_publish_109
      · -- 45 f
        have hR : (tl_put E nf 9 0 (T, cr, dn, wm)).1 = true := by simpa using h45
        rw [h45] at hP
        refine lv_aload_n hx hb d_M_publish_48 rfl (lv_at hl 1 rfl) ?_
        refine tl_doI (v := (tl_bi (tl_wB ((tl_put E nf 9 0 (T, cr, dn, wm)).2.2.1)))) (va_runV (As := []) (rest := []) ⟨hx, hb, hml, hown, hw⟩ (c_M_write l D cJ cI cG cZ bd E nf tf9 hn hs rt ((tl_put E nf 9 0 (T, cr, dn, wm)).2.2.2.1) ((tl_put E nf 9 0 (T, cr, dn, wm)).2.2.2.2) ((tl_put E nf 9 0 (T, cr, dn, wm)).2.2.1) pf pl O ol rw rl wh9 th9 hap) (⟨tl_cB hw tl_m225 tl_m3 tl_m223 dd_M_write rfl rfl ⟨Nat.le_of_ble_eq_true rfl, Nat.le_of_ble_eq_true rfl⟩, hw _ tl_m224, hw _ tl_m369⟩) (tl_preV hE hP (va_recv (q0 := 0) (ci := 2) (q := (R_M, F_M, 18)) hE.1 hP rfl rfl)) rfl rfl hl.1 rfl (lv_room (Nat.le_of_ble_eq_true rfl)) d_M_publish_49 ⟨Nat.zero_le _, Nat.zero_le _⟩) hS (fun _ h => h) (fun H locs hP hS _ => ?_)
        have hP : va_P D tl_cl (tl_V cJ cI cZ bd E nf tf9 hn hs rt (tl_wD ((tl_put E nf 9 0 (T, cr, dn, wm)).2.2.1) ((tl_put E nf 9 0 (T, cr, dn, wm)).2.2.2.1)) (tl_wW ((tl_put E nf 9 0 (T, cr, dn, wm)).2.2.1) ((tl_put E nf 9 0 (T, cr, dn, wm)).2.2.2.2)) (tl_wC ((tl_put E nf 9 0 (T, cr, dn, wm)).2.2.1)) (!tl_wB ((tl_put E nf 9 0 (T, cr, dn, wm)).2.2.1)) pf pl O ol rw rl wh9 th9) H := hP
        refine tl_beq (tgt := 93) hx hb d_M_publish_52 (by decide) (fun h52 => ?_) (fun h52 => ?_)
        · -- 52 t
          have hc := tl_wB_f h52
          rw [tl_wD0 hc, tl_wW0 hc, tl_wC0 hc, tl_wB0 hc] at hP
          have hP : va_P D tl_cl (tl_V cJ cI cZ bd E nf tf9 hn hs rt true ((tl_put E nf 9 0 (T, cr, dn, wm)).2.2.2.2) (-1) true pf pl O ol rw rl wh9 th9) H := hP
          refine lv_aload_n hx hb d_M_publish_93 rfl (lv_at hl 1 rfl) ?_
          refine va_get (ci := 2) (v := .int (tl_bi (true))) (C := R_M) (T := F_M) (N := 18) hx hb hw iw_M hown hE.1 hP 0 rfl rfl 9 (by decide) (hw _ tl_m209) (fun _ h9 => h9) rfl d_M_publish_94 ?_
          refine tl_beq (v := true) (tgt := 105) hx hb d_M_publish_97 (by decide) (fun h => absurd h (by decide)) (fun _ => ?_)
          refine lv_bipush (v := (-3)) hx hb d_M_publish_100 (by decide) ?_
          refine lv_goto (tgt := 109) hx hb d_M_publish_102 (by decide) ?_
          have hsp : tl_publish (E, nf, T, L, sz, rt, dn, wm, cr, Lp, ol, O) = (-3, (E, nf, (tl_put E nf 9 0 (T, cr, dn, wm)).2.1, L, sz, rt, true, (tl_put E nf 9 0 (T, cr, dn, wm)).2.2.2.2, -1, Lp, ol, O)) := by unfold tl_publish; dsimp only; rw [if_neg (by rw [h4]; decide), if_neg h23]; unfold tl_pubR; dsimp only; rw [if_pos hR, if_pos hc]
          refine lv_topi (nm_r (e' := (tl_publish (E, nf, T, L, sz, rt, dn, wm, cr, Lp, ol, O)).1) (by rw [hsp]) ?_)
          exact W.iret hx hb hr (fun t9 ht9 _ => tl_endI hS (by show tl_Y D cJ cI cZ bd (tl_publish (E, nf, T, L, sz, rt, dn, wm, cr, Lp, ol, O)).2 _; rw [hsp]; exact ⟨tf9, hn, hs, true, pf, pl, rw, rl, wh9, th9, hI2, hP⟩) ht9) hS.2.2 d_M_publish_109
        · -- 52 f
          have hc := tl_wB_t h52
          rw [tl_wDn hc, tl_wWn hc, tl_wCn hc, tl_wB1 hc] at hP
          have hP : va_P D tl_cl (tl_V cJ cI cZ bd E nf tf9 hn hs rt ((tl_put E nf 9 0 (T, cr, dn, wm)).2.2.2.1) ((tl_put E nf 9 0 (T, cr, dn, wm)).2.2.2.2 + 1) (tl_dec (tl_put E nf 9 0 (T, cr, dn, wm)).2.2.1) false pf pl O ol rw rl wh9 th9) H := hP
          refine lv_aload_n hx hb d_M_publish_55 rfl (lv_at hl 1 rfl) ?_
          refine va_get (ci := 2) (v := .ref (bd 3)) (C := R_M) (T := F_M) (N := 18) hx hb hw iw_M hown hE.1 hP 0 rfl rfl 3 (by decide) (hw _ tl_m203) (fun _ h9 => h9) rfl d_M_publish_56 ?_
          refine lv_iload_n hx hb d_M_publish_59 rfl (lv_at hl 0 rfl) ?_
          refine lv_iconst (v := (nI (2))) hx hb d_M_publish_60 (by decide) ?_
          refine lv_irem hx hb d_M_publish_61 (by decide) ?_
          refine lv_topi (nm_r (e' := (nI ((L + 1) % 2))) (pk_rem (by omega) (by omega) (by omega)) ?_)
          refine lv_iload_n hx hb d_M_publish_62 rfl (lv_at hl 0 rfl) ?_
          refine tl_iast (a := ((L + 1) % 2)) hx hb hE.1 hP (tl_DV hap) hS 3 1 rfl rfl (by omega) (by decide) d_M_publish_63 (fun H locs hP hS => ?_)
          have hP : va_P D tl_cl (tl_V cJ cI cZ bd E nf tf9 (upd hn ((L + 1) % 2) (nI (L + 1))) hs rt ((tl_put E nf 9 0 (T, cr, dn, wm)).2.2.2.1) ((tl_put E nf 9 0 (T, cr, dn, wm)).2.2.2.2 + 1) (tl_dec (tl_put E nf 9 0 (T, cr, dn, wm)).2.2.1) false pf pl O ol rw rl wh9 th9) H := hP
          refine lv_aload_n hx hb d_M_publish_64 rfl (lv_at hl 1 rfl) ?_
          refine va_get (ci := 2) (v := .ref (bd 4)) (C := R_M) (T := F_M) (N := 18) hx hb hw iw_M hown hE.1 hP 0 rfl rfl 4 (by decide) (hw _ tl_m204) (fun _ h9 => h9) rfl d_M_publish_65 ?_
          refine lv_iload_n hx hb d_M_publish_68 rfl (lv_at hl 0 rfl) ?_
          refine lv_iconst (v := (nI (2))) hx hb d_M_publish_69 (by decide) ?_
          refine lv_irem hx hb d_M_publish_70 (by decide) ?_
          refine lv_topi (nm_r (e' := (nI ((L + 1) % 2))) (pk_rem (by omega) (by omega) (by omega)) ?_)
          refine lv_aload_n hx hb d_M_publish_71 rfl (lv_at hl 1 rfl) ?_
          refine va_get (ci := 2) (v := .int (nI (nf))) (C := R_M) (T := F_M) (N := 18) hx hb hw iw_M hown hE.1 hP 0 rfl rfl 0 (by decide) (hw _ tl_m200) (fun _ h9 => h9) rfl d_M_publish_72 ?_
          refine tl_iast (a := ((L + 1) % 2)) hx hb hE.1 hP (tl_DV hap) hS 4 1 rfl rfl (by omega) (by decide) d_M_publish_75 (fun H locs hP hS => ?_)
          have hP : va_P D tl_cl (tl_V cJ cI cZ bd E nf tf9 (upd hn ((L + 1) % 2) (nI (L + 1))) (upd hs ((L + 1) % 2) (nI (nf))) rt ((tl_put E nf 9 0 (T, cr, dn, wm)).2.2.2.1) ((tl_put E nf 9 0 (T, cr, dn, wm)).2.2.2.2 + 1) (tl_dec (tl_put E nf 9 0 (T, cr, dn, wm)).2.2.1) false pf pl O ol rw rl wh9 th9) H := hP
          refine lv_aload_n hx hb d_M_publish_76 rfl (lv_at hl 1 rfl) ?_
          refine va_get (ci := 2) (v := .ref (bd 5)) (C := R_M) (T := F_M) (N := 18) hx hb hw iw_M hown hE.1 hP 0 rfl rfl 5 (by decide) (hw _ tl_m205) (fun _ h9 => h9) rfl d_M_publish_77 ?_
          refine lv_iload_n hx hb d_M_publish_80 rfl (lv_at hl 0 rfl) ?_
          refine lv_iconst (v := (nI (2))) hx hb d_M_publish_81 (by decide) ?_
          refine lv_irem hx hb d_M_publish_82 (by decide) ?_
          refine lv_topi (nm_r (e' := (nI ((L + 1) % 2))) (pk_rem (by omega) (by omega) (by omega)) ?_)
          refine lv_aload_n hx hb d_M_publish_83 rfl (lv_at hl 1 rfl) ?_
          refine lv_iconst (v := (nI (0))) hx hb d_M_publish_84 (by decide) ?_
          refine lv_aload_n hx hb d_M_publish_85 rfl (lv_at hl 1 rfl) ?_
          refine va_get (ci := 2) (v := .int (nI (nf))) (C := R_M) (T := F_M) (N := 18) hx hb hw iw_M hown hE.1 hP 0 rfl rfl 0 (by decide) (hw _ tl_m200) (fun _ h9 => h9) rfl d_M_publish_86 ?_
          refine tl_doL (v := (tl_root E 0 nf)) (va_runV (As := [.int (nI (0)), .int (nI (nf))]) (rest := [.int (nI ((L + 1) % 2)), .ref (bd 5)]) ⟨hx, hb, hml, hown, hw⟩ (c_M_rootAt l D cJ cI cG cZ bd E nf tf9 (upd hn ((L + 1) % 2) (nI (L + 1))) (upd hs ((L + 1) % 2) (nI (nf))) rt ((tl_put E nf 9 0 (T, cr, dn, wm)).2.2.2.1) ((tl_put E nf 9 0 (T, cr, dn, wm)).2.2.2.2 + 1) (tl_dec (tl_put E nf 9 0 (T, cr, dn, wm)).2.2.1) false pf pl O ol rw rl wh9 th9 0 nf hap (by omega)) (⟨tl_cB hw tl_m253 tl_m3 tl_m251 dd_M_rootAt rfl rfl ⟨Nat.le_of_ble_eq_true rfl, Nat.le_of_ble_eq_true rfl⟩, hw _ tl_m252, hw _ tl_m374⟩) (tl_preV hE hP (va_recv (q0 := 0) (ci := 2) (q := (R_M, F_M, 18)) hE.1 hP rfl rfl)) rfl rfl hl.1 rfl (lv_room (Nat.le_of_ble_eq_true rfl)) d_M_publish_89 ⟨Nat.zero_le _, Nat.zero_le _⟩) hS (fun _ h => h) (fun H locs hX hS _ => ?_)
          obtain ⟨wz1, tz2, hP⟩ := hX
          have hP : va_P D tl_cl (tl_V cJ cI cZ bd E nf tf9 (upd hn ((L + 1) % 2) (nI (L + 1))) (upd hs ((L + 1) % 2) (nI (nf))) rt ((tl_put E nf 9 0 (T, cr, dn, wm)).2.2.2.1) ((tl_put E nf 9 0 (T, cr, dn, wm)).2.2.2.2 + 1) (tl_dec (tl_put E nf 9 0 (T, cr, dn, wm)).2.2.1) false pf pl O ol rw rl wz1 tz2) H := hP
          refine tl_last (a := ((L + 1) % 2)) hx hb hE.1 hP (tl_DV hap) hS 5 0 rfl rfl (by omega) (by decide) d_M_publish_92 (fun H locs hP hS => ?_)
          have hP : va_P D tl_cl (tl_V cJ cI cZ bd E nf tf9 (upd hn ((L + 1) % 2) (nI (L + 1))) (upd hs ((L + 1) % 2) (nI (nf))) (vp_updL rt ((L + 1) % 2) (tl_root E 0 nf)) ((tl_put E nf 9 0 (T, cr, dn, wm)).2.2.2.1) ((tl_put E nf 9 0 (T, cr, dn, wm)).2.2.2.2 + 1) (tl_dec (tl_put E nf 9 0 (T, cr, dn, wm)).2.2.1) false pf pl O ol rw rl wz1 tz2) H := hP
          have hI3 : tl_G nf (upd hn ((L + 1) % 2) (nI (L + 1))) (upd hs ((L + 1) % 2) (nI nf)) (L + 1) (tl_upN sz ((L + 1) % 2) nf) pf pl Lp ol (tl_put E nf 9 0 (T, cr, dn, wm)).2.1 tf9 := ⟨⟨hnf, hL1, tl_hnS hh, tl_hzS hz, tl_szS hsz, hpl, hpf, hp7, hol⟩, fun q9 => absurd q9 (by omega), htf9⟩
          refine lv_aload_n hx hb d_M_publish_93 rfl (lv_at hl 1 rfl) ?_
          refine va_get (ci := 2) (v := .int (tl_bi (false))) (C := R_M) (T := F_M) (N := 18) hx hb hw iw_M hown hE.1 hP 0 rfl rfl 9 (by decide) (hw _ tl_m209) (fun _ h9 => h9) rfl d_M_publish_94 ?_
          refine tl_beq (v := false) (tgt := 105) hx hb d_M_publish_97 (by decide) (fun _ => ?_) (fun h => absurd h (by decide))
          refine lv_aload_n hx hb d_M_publish_105 rfl (lv_at hl 1 rfl) ?_
          refine tl_goI (v := (nI (L + 1))) (va_runV (As := []) (rest := []) ⟨hx, hb, hml, hown, hw⟩ (c_M_latestNumber l D cJ cI cG cZ bd E nf tf9 (upd hn ((L + 1) % 2) (nI (L + 1))) (upd hs ((L + 1) % 2) (nI (nf))) (vp_updL rt ((L + 1) % 2) (tl_root E 0 nf)) ((tl_put E nf 9 0 (T, cr, dn, wm)).2.2.2.1) ((tl_put E nf 9 0 (T, cr, dn, wm)).2.2.2.2 + 1) (tl_dec (tl_put E nf 9 0 (T, cr, dn, wm)).2.2.1) false pf pl O ol rw rl wz1 tz2 (L + 1) (tl_upN sz ((L + 1) % 2) nf) Lp (tl_put E nf 9 0 (T, cr, dn, wm)).2.1  hI3) (⟨tl_cB hw tl_m260 tl_m3 tl_m258 dd_M_latestNumber rfl rfl ⟨Nat.le_of_ble_eq_true rfl, Nat.le_of_ble_eq_true rfl⟩, hw _ tl_m259, hw _ tl_m375⟩) (tl_preV hE hP (va_recv (q0 := 0) (ci := 2) (q := (R_M, F_M, 18)) hE.1 hP rfl rfl)) rfl rfl hl.1 rfl (lv_room (Nat.le_of_ble_eq_true rfl)) d_M_publish_106 ⟨Nat.zero_le _, Nat.zero_le _⟩) ?_
          have hsp : tl_publish (E, nf, T, L, sz, rt, dn, wm, cr, Lp, ol, O) = (nI (L + 1), (E, nf, (tl_put E nf 9 0 (T, cr, dn, wm)).2.1, L + 1, tl_upN sz ((L + 1) % 2) nf, vp_updL rt ((L + 1) % 2) (tl_root E 0 nf), (tl_put E nf 9 0 (T, cr, dn, wm)).2.2.2.1, (tl_put E nf 9 0 (T, cr, dn, wm)).2.2.2.2 + 1, tl_dec (tl_put E nf 9 0 (T, cr, dn, wm)).2.2.1, Lp, ol, O)) := by unfold tl_publish; dsimp only; rw [if_neg (by rw [h4]; decide), if_neg h23]; unfold tl_pubR; dsimp only; rw [if_pos hR, if_neg hc]
          refine lv_topi (nm_r (e' := (tl_publish (E, nf, T, L, sz, rt, dn, wm, cr, Lp, ol, O)).1) (by rw [hsp]) ?_)
          exact W.iret hx hb hr (fun t9 ht9 _ => tl_endI hS (by show tl_Y D cJ cI cZ bd (tl_publish (E, nf, T, L, sz, rt, dn, wm, cr, Lp, ol, O)).2 _; rw [hsp]; exact ⟨tf9, (upd hn ((L + 1) % 2) (nI (L + 1))), (upd hs ((L + 1) % 2) (nI (nf))), false, pf, pl, rw, rl, wz1, tz2, hI3, hP⟩) ht9) hS.2.2 d_M_publish_109
  · -- 4 f
    refine lv_bipush (v := (-2)) hx hb d_M_publish_7 (by decide) ?_
    have hsp : tl_publish (E, nf, T, L, sz, rt, dn, wm, cr, Lp, ol, O) = (-2, (E, nf, T, L, sz, rt, dn, wm, cr, Lp, ol, O)) := by unfold tl_publish; dsimp only; rw [h4]; rfl
    refine lv_topi (nm_r (e' := (tl_publish (E, nf, T, L, sz, rt, dn, wm, cr, Lp, ol, O)).1) (by rw [hsp]) ?_)
    exact W.iret hx hb hr (fun t9 ht9 _ => tl_endI hS (by show tl_Y D cJ cI cZ bd (tl_publish (E, nf, T, L, sz, rt, dn, wm, cr, Lp, ol, O)).2 _; rw [hsp]; exact ⟨tf, hn, hs, cd, pf, pl, rw, rl, wh, th, hI0, hP⟩) ht9) hS.2.2 d_M_publish_9

set_option maxHeartbeats 4000000 in
set_option maxRecDepth 100000 in
theorem c_M_rootOf (l : Launch) (D : va_G) (cJ cI cG cZ : ClassId) (bd : Nat → Nat) (E : Nat → Int64) (nf : Nat) (tf : Nat → Int64) (hn hs : Nat → Int32) (rt : Nat → Int64) (dn : Bool) (wm cr : Int32) (cd : Bool) (pf : Nat → Int64) (pl : Nat) (O : Nat → Int64) (ol : Nat) (rw : Nat → Int64) (rl : Nat) (wh : Nat → Int64) (th : Nat → Int32) (L : Nat) (sz : Nat → Nat) (Lp : List Int64) (T : Nat → Nat → Int64) (x : Int32) (hap : tl_ap bd 11) (hI : tl_G nf hn hs L sz pf pl Lp ol T tf) : Met l y_M_rootOf (k_M_rootOf :: tl_ws) { frames := 3, cells := 0, slots := 0, locals := 76 } (tl_Pc D cJ cI cG cZ [.ref (bd 0), .int (x)] (fun H => va_P D tl_cl (tl_V cJ cI cZ bd E nf tf hn hs rt dn wm cr cd pf pl O ol rw rl wh th) H)) (tl_Ql (tl_rofA E nf x) (fun H => tl_Y D cJ cI cZ bd (E, nf, T, L, sz, rt, dn, wm, cr, Lp, ol, O) H) (tl_in bd 11)) 0 0 (tl_in bd 11) := by
  refine Met.ofW (cc := b_M_rootOf) (maxL := 2) (ret := (some .long)) (by decide) rfl ?_
  intro p e s m args below meth c s₁ B hml hv
  obtain ⟨rfl, hE, hP⟩ := hv
  have hx := B.exec
  have hb := B.bytes
  have hr := B.returns
  have hw : ∀ w ∈ tl_ws, w.before ([.ref (bd 0), .int (x)] : List Value).toArray s = true := fun w h => atoms_spec (ws := k_M_rootOf :: tl_ws) B.pre w (List.mem_cons_of_mem _ h)
  have hown : s.vm.findClass R_M = some m.cls := findClass_of_methodNamed B.named
  have hlocks := B.notSynchronized
  have hl := lv_entry ([.ref (bd 0), .int (x)]) (n := 2) (Nat.le_of_ble_eq_true rfl)
  rw [lg_entry_eq]
  generalize (lg_sl ([.ref (bd 0), .int (x)]) ++ List.replicate (2 - (lg_sl ([.ref (bd 0), .int (x)])).length) Slot.unset).toArray = ls at hl ⊢
  have hl : lv_has ls 2 [(0, .ref (bd 0)), (1, .int (x))] := hl
  have hP : va_P D tl_cl (tl_V cJ cI cZ bd E nf tf hn hs rt dn wm cr cd pf pl O ol rw rl wh th) s.heap := hP
  have hS : va_S (tl_in bd 11) s.heap s.heap [] := va_S.rf
  have hI0 := hI
  obtain ⟨⟨hnf, hL, hh, hz, hsz, hpl, hpf, hp7, hol⟩, hsz0, htf⟩ := hI
  have hpub : tl_pub L sz ≤ 64 := Nat.le_trans (tl_pub_le hsz) hnf
  have hb0 := tl_num_le L 0
  have hb1 := tl_num_le L 1
  refine lv_iload_n hx hb d_M_rootOf_0 rfl (lv_at hl 1 rfl) ?_
  refine lv_if_lt (tgt := 12) hx hb d_M_rootOf_1 (by decide) (fun h1 => ?_) (fun h1 => ?_)
  · -- 1 t
    refine lv_lconst (v := 0) hx hb d_M_rootOf_12 (by decide) ?_
    refine lv_goto (tgt := 22) hx hb d_M_rootOf_13 (by decide) ?_
    refine lv_topl (nm_r (e' := tl_rofA E nf x) ((by unfold tl_rofA; first | (rw [if_pos h1]; done) | (rw [if_neg h1, if_pos (Int32.not_le.mp h9)]; done) | (rw [if_neg h1, if_neg (Int32.not_lt.mpr h9), nI_clamp (by omega)]))) ?_)
    exact W.lret hx hb hr (fun t9 ht9 _ => tl_endL hS (show tl_Y D cJ cI cZ bd (E, nf, T, L, sz, rt, dn, wm, cr, Lp, ol, O) _ from ⟨tf, hn, hs, cd, pf, pl, rw, rl, wh, th, hI0, hP⟩) ht9) hS.2.2 d_M_rootOf_22
  · -- 1 f
    refine lv_iload_n hx hb d_M_rootOf_4 rfl (lv_at hl 1 rfl) ?_
    refine lv_aload_n hx hb d_M_rootOf_5 rfl (lv_at hl 0 rfl) ?_
    refine va_get (ci := 2) (v := .int (nI (nf))) (C := R_M) (T := F_M) (N := 18) hx hb hw iw_M hown hE.1 hP 0 rfl rfl 0 (by decide) (hw _ tl_m200) (fun _ h9 => h9) rfl d_M_rootOf_6 ?_
    refine lv_icmp_le (tgt := 16) hx hb d_M_rootOf_9 (by decide) (fun h9 => ?_) (fun h9 => ?_)
    · -- 9 t
      obtain ⟨j, hj, rfl⟩ := tl_ixle (by omega) h1 (fun q => absurd h9 (Int32.not_le.mpr q))
      refine lv_aload_n hx hb d_M_rootOf_16 rfl (lv_at hl 0 rfl) ?_
      refine lv_iconst (v := (nI (0))) hx hb d_M_rootOf_17 (by decide) ?_
      refine lv_iload_n hx hb d_M_rootOf_18 rfl (lv_at hl 1 rfl) ?_
      refine tl_doL (v := (tl_root E 0 j)) (va_runV (As := [.int (nI (0)), .int (nI (j))]) (rest := []) ⟨hx, hb, hml, hown, hw⟩ (c_M_rootAt l D cJ cI cG cZ bd E nf tf hn hs rt dn wm cr cd pf pl O ol rw rl wh th 0 j hap (by omega)) (⟨tl_cB hw tl_m253 tl_m3 tl_m251 dd_M_rootAt rfl rfl ⟨Nat.le_of_ble_eq_true rfl, Nat.le_of_ble_eq_true rfl⟩, hw _ tl_m252, hw _ tl_m374⟩) (tl_preV hE hP (va_recv (q0 := 0) (ci := 2) (q := (R_M, F_M, 18)) hE.1 hP rfl rfl)) rfl rfl hl.1 rfl (lv_room (Nat.le_of_ble_eq_true rfl)) d_M_rootOf_19 ⟨Nat.zero_le _, Nat.zero_le _⟩) hS (fun _ h => h) (fun H locs hX hS _ => ?_)
      obtain ⟨wz1, tz2, hP⟩ := hX
      have hP : va_P D tl_cl (tl_V cJ cI cZ bd E nf tf hn hs rt dn wm cr cd pf pl O ol rw rl wz1 tz2) H := hP
      refine lv_topl (nm_r (e' := tl_rofA E nf (nI (j))) ((by unfold tl_rofA; first | (rw [if_pos h1]; done) | (rw [if_neg h1, if_pos (Int32.not_le.mp h9)]; done) | (rw [if_neg h1, if_neg (Int32.not_lt.mpr h9), nI_clamp (by omega)]))) ?_)
      exact W.lret hx hb hr (fun t9 ht9 _ => tl_endL hS (show tl_Y D cJ cI cZ bd (E, nf, T, L, sz, rt, dn, wm, cr, Lp, ol, O) _ from ⟨tf, hn, hs, cd, pf, pl, rw, rl, wz1, tz2, hI0, hP⟩) ht9) hS.2.2 d_M_rootOf_22
    · -- 9 f
      refine lv_lconst (v := 0) hx hb d_M_rootOf_12 (by decide) ?_
      refine lv_goto (tgt := 22) hx hb d_M_rootOf_13 (by decide) ?_
      refine lv_topl (nm_r (e' := tl_rofA E nf x) ((by unfold tl_rofA; first | (rw [if_pos h1]; done) | (rw [if_neg h1, if_pos (Int32.not_le.mp h9)]; done) | (rw [if_neg h1, if_neg (Int32.not_lt.mpr h9), nI_clamp (by omega)]))) ?_)
      exact W.lret hx hb hr (fun t9 ht9 _ => tl_endL hS (show tl_Y D cJ cI cZ bd (E, nf, T, L, sz, rt, dn, wm, cr, Lp, ol, O) _ from ⟨tf, hn, hs, cd, pf, pl, rw, rl, wh, th, hI0, hP⟩) ht9) hS.2.2 d_M_rootOf_22
