set_option maxHeartbeats 4000000 in
set_option maxRecDepth 100000 in
theorem c_M_latestPlace (l : Launch) (D : va_G) (cJ cI cG cZ : ClassId) (bd : Nat → Nat) (E : Nat → Int64) (nf : Nat) (tf : Nat → Int64) (hn hs : Nat → Int32) (rt : Nat → Int64) (dn : Bool) (wm cr : Int32) (cd : Bool) (pf : Nat → Int64) (pl : Nat) (O : Nat → Int64) (ol : Nat) (rw : Nat → Int64) (rl : Nat) (wh : Nat → Int64) (th : Nat → Int32) (L : Nat) (sz : Nat → Nat) (Lp : List Int64) (T : Nat → Nat → Int64)  (hI : tl_G nf hn hs L sz pf pl Lp ol T tf) : Met l y_M_latestPlace (k_M_latestPlace :: tl_ws) { frames := 0, cells := 0, slots := 0, locals := 0 } (tl_Pc D cJ cI cG cZ [.ref (bd 0)] (fun H => va_P D tl_cl (tl_V cJ cI cZ bd E nf tf hn hs rt dn wm cr cd pf pl O ol rw rl wh th) H)) (vp_Si (fun r => r = if L = 0 then -1 else nI (L % 2))) 0 0 (fun _ => False) := by
  refine Met.ofW (cc := b_M_latestPlace) (maxL := 1) (ret := (some .int)) (by decide) rfl ?_
  intro p e s m args below meth c s₁ B hml hv
  obtain ⟨rfl, hE, hP⟩ := hv
  have hx := B.exec
  have hb := B.bytes
  have hr := B.returns
  have hw : ∀ w ∈ tl_ws, w.before ([.ref (bd 0)] : List Value).toArray s = true := fun w h => atoms_spec (ws := k_M_latestPlace :: tl_ws) B.pre w (List.mem_cons_of_mem _ h)
  have hown : s.vm.findClass R_M = some m.cls := findClass_of_methodNamed B.named
  have hlocks := B.notSynchronized
  have hl := lv_entry ([.ref (bd 0)]) (n := 1) (Nat.le_of_ble_eq_true rfl)
  rw [lg_entry_eq]
  generalize (lg_sl ([.ref (bd 0)]) ++ List.replicate (1 - (lg_sl ([.ref (bd 0)])).length) Slot.unset).toArray = ls at hl ⊢
  have hl : lv_has ls 1 [(0, .ref (bd 0))] := hl
  have hP : va_P D tl_cl (tl_V cJ cI cZ bd E nf tf hn hs rt dn wm cr cd pf pl O ol rw rl wh th) s.heap := hP
  have hI0 := hI
  obtain ⟨⟨hnf, hL, hh, hz, hsz, hpl, hpf, hp7, hol⟩, hsz0, htf⟩ := hI
  have hpub : tl_pub L sz ≤ 64 := Nat.le_trans (tl_pub_le hsz) hnf
  have hb0 := tl_num_le L 0
  have hb1 := tl_num_le L 1
  refine lv_aload_n hx hb d_M_latestPlace_0 rfl (lv_at hl 0 rfl) ?_
  refine va_get (ci := 2) (v := .ref (bd 3)) (C := R_M) (T := F_M) (N := 18) hx hb hw iw_M hown hE.1 hP 0 rfl rfl 3 (by decide) (hw _ tl_m203) (fun _ h9 => h9) rfl d_M_latestPlace_1 ?_
  refine lv_iconst (v := (nI (0))) hx hb d_M_latestPlace_4 (by decide) ?_
  refine tl_iald (a := 0) hx hb hE.1 hP 3 1 rfl rfl (by omega) (by decide) d_M_latestPlace_5 ?_
  refine lv_topi (nm_r (e' := (nI (tl_num L 0))) (hh 0 (by omega)) ?_)
  refine tl_zne (tgt := 22) (by omega) hx hb d_M_latestPlace_6 (by decide) (fun h6 => ?_) (fun h6 => ?_)
  · -- 6 t
    refine lv_aload_n hx hb d_M_latestPlace_22 rfl (lv_at hl 0 rfl) ?_
    refine va_get (ci := 2) (v := .ref (bd 3)) (C := R_M) (T := F_M) (N := 18) hx hb hw iw_M hown hE.1 hP 0 rfl rfl 3 (by decide) (hw _ tl_m203) (fun _ h9 => h9) rfl d_M_latestPlace_23 ?_
    refine lv_iconst (v := (nI (0))) hx hb d_M_latestPlace_26 (by decide) ?_
    refine tl_iald (a := 0) hx hb hE.1 hP 3 1 rfl rfl (by omega) (by decide) d_M_latestPlace_27 ?_
    refine lv_topi (nm_r (e' := (nI (tl_num L 0))) (hh 0 (by omega)) ?_)
    refine lv_aload_n hx hb d_M_latestPlace_28 rfl (lv_at hl 0 rfl) ?_
    refine va_get (ci := 2) (v := .ref (bd 3)) (C := R_M) (T := F_M) (N := 18) hx hb hw iw_M hown hE.1 hP 0 rfl rfl 3 (by decide) (hw _ tl_m203) (fun _ h9 => h9) rfl d_M_latestPlace_29 ?_
    refine lv_iconst (v := (nI (1))) hx hb d_M_latestPlace_32 (by decide) ?_
    refine tl_iald (a := 1) hx hb hE.1 hP 3 1 rfl rfl (by omega) (by decide) d_M_latestPlace_33 ?_
    refine lv_topi (nm_r (e' := (nI (tl_num L 1))) (hh 1 (by omega)) ?_)
    refine tl_cle (tgt := 41) (by omega) (by omega) hx hb d_M_latestPlace_34 (by decide) (fun h34 => ?_) (fun h34 => ?_)
    · -- 34 t
      refine lv_iconst (v := (nI (1))) hx hb d_M_latestPlace_41 (by decide) ?_
      exact W.iret hx hb hr (fun t9 ht9 _ => ⟨(nI (1)), rfl, (by first | (rw [if_pos (tl_l0 h6 h15)]; done) | (rw [if_neg (tl_lm0 h34).1, (tl_lm0 h34).2]; done) | (rw [if_neg (tl_lm1 h34 (Or.inl h6)).1, (tl_lm1 h34 (Or.inl h6)).2]; done) | rw [if_neg (tl_lm1 h34 (Or.inr h15)).1, (tl_lm1 h34 (Or.inr h15)).2]), ht9⟩) (fun q h => by cases h) d_M_latestPlace_42
    · -- 34 f
      refine lv_iconst (v := (nI (0))) hx hb d_M_latestPlace_37 (by decide) ?_
      refine lv_goto (tgt := 42) hx hb d_M_latestPlace_38 (by decide) ?_
      exact W.iret hx hb hr (fun t9 ht9 _ => ⟨(nI (0)), rfl, (by first | (rw [if_pos (tl_l0 h6 h15)]; done) | (rw [if_neg (tl_lm0 h34).1, (tl_lm0 h34).2]; done) | (rw [if_neg (tl_lm1 h34 (Or.inl h6)).1, (tl_lm1 h34 (Or.inl h6)).2]; done) | rw [if_neg (tl_lm1 h34 (Or.inr h15)).1, (tl_lm1 h34 (Or.inr h15)).2]), ht9⟩) (fun q h => by cases h) d_M_latestPlace_42
  · -- 6 f
    refine lv_aload_n hx hb d_M_latestPlace_9 rfl (lv_at hl 0 rfl) ?_
    refine va_get (ci := 2) (v := .ref (bd 3)) (C := R_M) (T := F_M) (N := 18) hx hb hw iw_M hown hE.1 hP 0 rfl rfl 3 (by decide) (hw _ tl_m203) (fun _ h9 => h9) rfl d_M_latestPlace_10 ?_
    refine lv_iconst (v := (nI (1))) hx hb d_M_latestPlace_13 (by decide) ?_
    refine tl_iald (a := 1) hx hb hE.1 hP 3 1 rfl rfl (by omega) (by decide) d_M_latestPlace_14 ?_
    refine lv_topi (nm_r (e' := (nI (tl_num L 1))) (hh 1 (by omega)) ?_)
    refine tl_zne (tgt := 22) (by omega) hx hb d_M_latestPlace_15 (by decide) (fun h15 => ?_) (fun h15 => ?_)
    · -- 15 t
      refine lv_aload_n hx hb d_M_latestPlace_22 rfl (lv_at hl 0 rfl) ?_
      refine va_get (ci := 2) (v := .ref (bd 3)) (C := R_M) (T := F_M) (N := 18) hx hb hw iw_M hown hE.1 hP 0 rfl rfl 3 (by decide) (hw _ tl_m203) (fun _ h9 => h9) rfl d_M_latestPlace_23 ?_
      refine lv_iconst (v := (nI (0))) hx hb d_M_latestPlace_26 (by decide) ?_
      refine tl_iald (a := 0) hx hb hE.1 hP 3 1 rfl rfl (by omega) (by decide) d_M_latestPlace_27 ?_
      refine lv_topi (nm_r (e' := (nI (tl_num L 0))) (hh 0 (by omega)) ?_)
      refine lv_aload_n hx hb d_M_latestPlace_28 rfl (lv_at hl 0 rfl) ?_
      refine va_get (ci := 2) (v := .ref (bd 3)) (C := R_M) (T := F_M) (N := 18) hx hb hw iw_M hown hE.1 hP 0 rfl rfl 3 (by decide) (hw _ tl_m203) (fun _ h9 => h9) rfl d_M_latestPlace_29 ?_
      refine lv_iconst (v := (nI (1))) hx hb d_M_latestPlace_32 (by decide) ?_
      refine tl_iald (a := 1) hx hb hE.1 hP 3 1 rfl rfl (by omega) (by decide) d_M_latestPlace_33 ?_
      refine lv_topi (nm_r (e' := (nI (tl_num L 1))) (hh 1 (by omega)) ?_)
      refine tl_cle (tgt := 41) (by omega) (by omega) hx hb d_M_latestPlace_34 (by decide) (fun h34 => ?_) (fun h34 => ?_)
      · -- 34 t
        refine lv_iconst (v := (nI (1))) hx hb d_M_latestPlace_41 (by decide) ?_
        exact W.iret hx hb hr (fun t9 ht9 _ => ⟨(nI (1)), rfl, (by first | (rw [if_pos (tl_l0 h6 h15)]; done) | (rw [if_neg (tl_lm0 h34).1, (tl_lm0 h34).2]; done) | (rw [if_neg (tl_lm1 h34 (Or.inl h6)).1, (tl_lm1 h34 (Or.inl h6)).2]; done) | rw [if_neg (tl_lm1 h34 (Or.inr h15)).1, (tl_lm1 h34 (Or.inr h15)).2]), ht9⟩) (fun q h => by cases h) d_M_latestPlace_42
      · -- 34 f
        refine lv_iconst (v := (nI (0))) hx hb d_M_latestPlace_37 (by decide) ?_
        refine lv_goto (tgt := 42) hx hb d_M_latestPlace_38 (by decide) ?_
        exact W.iret hx hb hr (fun t9 ht9 _ => ⟨(nI (0)), rfl, (by first | (rw [if_pos (tl_l0 h6 h15)]; done) | (rw [if_neg (tl_lm0 h34).1, (tl_lm0 h34).2]; done) | (rw [if_neg (tl_lm1 h34 (Or.inl h6)).1, (tl_lm1 h34 (Or.inl h6)).2]; done) | rw [if_neg (tl_lm1 h34 (Or.inr h15)).1, (tl_lm1 h34 (Or.inr h15)).2]), ht9⟩) (fun q h => by cases h) d_M_latestPlace_42
    · -- 15 f
      refine lv_iconst (v := (-1)) hx hb d_M_latestPlace_18 (by decide) ?_
      refine lv_goto (tgt := 42) hx hb d_M_latestPlace_19 (by decide) ?_
      exact W.iret hx hb hr (fun t9 ht9 _ => ⟨(-1), rfl, (by first | (rw [if_pos (tl_l0 h6 h15)]; done) | (rw [if_neg (tl_lm0 h34).1, (tl_lm0 h34).2]; done) | (rw [if_neg (tl_lm1 h34 (Or.inl h6)).1, (tl_lm1 h34 (Or.inl h6)).2]; done) | rw [if_neg (tl_lm1 h34 (Or.inr h15)).1, (tl_lm1 h34 (Or.inr h15)).2]), ht9⟩) (fun q h => by cases h) d_M_latestPlace_42

set_option maxHeartbeats 4000000 in
set_option maxRecDepth 100000 in
theorem c_M_latestNumber (l : Launch) (D : va_G) (cJ cI cG cZ : ClassId) (bd : Nat → Nat) (E : Nat → Int64) (nf : Nat) (tf : Nat → Int64) (hn hs : Nat → Int32) (rt : Nat → Int64) (dn : Bool) (wm cr : Int32) (cd : Bool) (pf : Nat → Int64) (pl : Nat) (O : Nat → Int64) (ol : Nat) (rw : Nat → Int64) (rl : Nat) (wh : Nat → Int64) (th : Nat → Int32) (L : Nat) (sz : Nat → Nat) (Lp : List Int64) (T : Nat → Nat → Int64)  (hI : tl_G nf hn hs L sz pf pl Lp ol T tf) : Met l y_M_latestNumber (k_M_latestNumber :: tl_ws) { frames := 1, cells := 0, slots := 0, locals := 20 } (tl_Pc D cJ cI cG cZ [.ref (bd 0)] (fun H => va_P D tl_cl (tl_V cJ cI cZ bd E nf tf hn hs rt dn wm cr cd pf pl O ol rw rl wh th) H)) (vp_Si (fun r => r = nI L)) 0 0 (fun _ => False) := by
  refine Met.ofW (cc := b_M_latestNumber) (maxL := 2) (ret := (some .int)) (by decide) rfl ?_
  intro p e s m args below meth c s₁ B hml hv
  obtain ⟨rfl, hE, hP⟩ := hv
  have hx := B.exec
  have hb := B.bytes
  have hr := B.returns
  have hw : ∀ w ∈ tl_ws, w.before ([.ref (bd 0)] : List Value).toArray s = true := fun w h => atoms_spec (ws := k_M_latestNumber :: tl_ws) B.pre w (List.mem_cons_of_mem _ h)
  have hown : s.vm.findClass R_M = some m.cls := findClass_of_methodNamed B.named
  have hlocks := B.notSynchronized
  have hl := lv_entry ([.ref (bd 0)]) (n := 2) (Nat.le_of_ble_eq_true rfl)
  rw [lg_entry_eq]
  generalize (lg_sl ([.ref (bd 0)]) ++ List.replicate (2 - (lg_sl ([.ref (bd 0)])).length) Slot.unset).toArray = ls at hl ⊢
  have hl : lv_has ls 2 [(0, .ref (bd 0))] := hl
  have hP : va_P D tl_cl (tl_V cJ cI cZ bd E nf tf hn hs rt dn wm cr cd pf pl O ol rw rl wh th) s.heap := hP
  have hI0 := hI
  obtain ⟨⟨hnf, hL, hh, hz, hsz, hpl, hpf, hp7, hol⟩, hsz0, htf⟩ := hI
  have hpub : tl_pub L sz ≤ 64 := Nat.le_trans (tl_pub_le hsz) hnf
  have hb0 := tl_num_le L 0
  have hb1 := tl_num_le L 1
  refine lv_aload_n hx hb d_M_latestNumber_0 rfl (lv_at hl 0 rfl) ?_
  refine tl_goI (v := (if L = 0 then -1 else nI (L % 2))) (va_runV (As := []) (rest := []) ⟨hx, hb, hml, hown, hw⟩ (c_M_latestPlace l D cJ cI cG cZ bd E nf tf hn hs rt dn wm cr cd pf pl O ol rw rl wh th L sz Lp T  hI0) (⟨tl_cB hw tl_m235 tl_m3 tl_m233 dd_M_latestPlace rfl rfl ⟨Nat.le_of_ble_eq_true rfl, Nat.le_of_ble_eq_true rfl⟩, hw _ tl_m234, hw _ tl_m371⟩) (tl_preV hE hP (va_recv (q0 := 0) (ci := 2) (q := (R_M, F_M, 18)) hE.1 hP rfl rfl)) rfl rfl hl.1 rfl (lv_room (Nat.le_of_ble_eq_true rfl)) d_M_latestNumber_1 ⟨Nat.zero_le _, Nat.zero_le _⟩) ?_
  refine lv_istore_n (lv' := [(1, .int (if L = 0 then -1 else nI (L % 2))), (0, .ref (bd 0))]) hx hb d_M_latestNumber_4 rfl hl (by decide) rfl (fun ls hl => ?_)
  refine lv_iload_n hx hb d_M_latestNumber_5 rfl (lv_at hl 0 rfl) ?_
  refine lv_if_ge (tgt := 13) hx hb d_M_latestNumber_6 (by decide) (fun h6 => ?_) (fun h6 => ?_)
  · -- 6 t
    have hL0 : ¬ L = 0 := fun q => absurd h6 (by rw [if_pos q]; decide)
    rw [if_neg hL0] at hl
    refine lv_aload_n hx hb d_M_latestNumber_13 rfl (lv_at hl 1 rfl) ?_
    refine va_get (ci := 2) (v := .ref (bd 3)) (C := R_M) (T := F_M) (N := 18) hx hb hw iw_M hown hE.1 hP 0 rfl rfl 3 (by decide) (hw _ tl_m203) (fun _ h9 => h9) rfl d_M_latestNumber_14 ?_
    refine lv_iload_n hx hb d_M_latestNumber_17 rfl (lv_at hl 0 rfl) ?_
    refine tl_iald (a := (L % 2)) hx hb hE.1 hP 3 1 rfl rfl (by omega) (by decide) d_M_latestNumber_18 ?_
    refine lv_topi (nm_r (e' := (nI (L))) (by rw [hh _ (by omega), tl_num_self]) ?_)
    exact W.iret hx hb hr (fun t9 ht9 _ => ⟨(nI (L)), rfl, (by first | rfl | rw [hL0]), ht9⟩) (fun q h => by cases h) d_M_latestNumber_19
  · -- 6 f
    have hL0 : L = 0 := Decidable.byContradiction (fun q => h6 (by rw [if_neg q]; exact nI_pos' (by omega)))
    refine lv_iconst (v := (nI (0))) hx hb d_M_latestNumber_9 (by decide) ?_
    refine lv_goto (tgt := 19) hx hb d_M_latestNumber_10 (by decide) ?_
    exact W.iret hx hb hr (fun t9 ht9 _ => ⟨(nI (0)), rfl, (by first | rfl | rw [hL0]), ht9⟩) (fun q h => by cases h) d_M_latestNumber_19

set_option maxHeartbeats 4000000 in
set_option maxRecDepth 100000 in
theorem c_M_published (l : Launch) (D : va_G) (cJ cI cG cZ : ClassId) (bd : Nat → Nat) (E : Nat → Int64) (nf : Nat) (tf : Nat → Int64) (hn hs : Nat → Int32) (rt : Nat → Int64) (dn : Bool) (wm cr : Int32) (cd : Bool) (pf : Nat → Int64) (pl : Nat) (O : Nat → Int64) (ol : Nat) (rw : Nat → Int64) (rl : Nat) (wh : Nat → Int64) (th : Nat → Int32) (L : Nat) (sz : Nat → Nat) (Lp : List Int64) (T : Nat → Nat → Int64)  (hI : tl_G nf hn hs L sz pf pl Lp ol T tf) : Met l y_M_published (k_M_published :: tl_ws) { frames := 1, cells := 0, slots := 0, locals := 20 } (tl_Pc D cJ cI cG cZ [.ref (bd 0)] (fun H => va_P D tl_cl (tl_V cJ cI cZ bd E nf tf hn hs rt dn wm cr cd pf pl O ol rw rl wh th) H)) (vp_Si (fun r => r = nI (tl_pub L sz))) 0 0 (fun _ => False) := by
  refine Met.ofW (cc := b_M_published) (maxL := 2) (ret := (some .int)) (by decide) rfl ?_
  intro p e s m args below meth c s₁ B hml hv
  obtain ⟨rfl, hE, hP⟩ := hv
  have hx := B.exec
  have hb := B.bytes
  have hr := B.returns
  have hw : ∀ w ∈ tl_ws, w.before ([.ref (bd 0)] : List Value).toArray s = true := fun w h => atoms_spec (ws := k_M_published :: tl_ws) B.pre w (List.mem_cons_of_mem _ h)
  have hown : s.vm.findClass R_M = some m.cls := findClass_of_methodNamed B.named
  have hlocks := B.notSynchronized
  have hl := lv_entry ([.ref (bd 0)]) (n := 2) (Nat.le_of_ble_eq_true rfl)
  rw [lg_entry_eq]
  generalize (lg_sl ([.ref (bd 0)]) ++ List.replicate (2 - (lg_sl ([.ref (bd 0)])).length) Slot.unset).toArray = ls at hl ⊢
  have hl : lv_has ls 2 [(0, .ref (bd 0))] := hl
  have hP : va_P D tl_cl (tl_V cJ cI cZ bd E nf tf hn hs rt dn wm cr cd pf pl O ol rw rl wh th) s.heap := hP
  have hI0 := hI
  obtain ⟨⟨hnf, hL, hh, hz, hsz, hpl, hpf, hp7, hol⟩, hsz0, htf⟩ := hI
  have hpub : tl_pub L sz ≤ 64 := Nat.le_trans (tl_pub_le hsz) hnf
  have hb0 := tl_num_le L 0
  have hb1 := tl_num_le L 1
  refine lv_aload_n hx hb d_M_published_0 rfl (lv_at hl 0 rfl) ?_
  refine tl_goI (v := (if L = 0 then -1 else nI (L % 2))) (va_runV (As := []) (rest := []) ⟨hx, hb, hml, hown, hw⟩ (c_M_latestPlace l D cJ cI cG cZ bd E nf tf hn hs rt dn wm cr cd pf pl O ol rw rl wh th L sz Lp T  hI0) (⟨tl_cB hw tl_m235 tl_m3 tl_m233 dd_M_latestPlace rfl rfl ⟨Nat.le_of_ble_eq_true rfl, Nat.le_of_ble_eq_true rfl⟩, hw _ tl_m234, hw _ tl_m371⟩) (tl_preV hE hP (va_recv (q0 := 0) (ci := 2) (q := (R_M, F_M, 18)) hE.1 hP rfl rfl)) rfl rfl hl.1 rfl (lv_room (Nat.le_of_ble_eq_true rfl)) d_M_published_1 ⟨Nat.zero_le _, Nat.zero_le _⟩) ?_
  refine lv_istore_n (lv' := [(1, .int (if L = 0 then -1 else nI (L % 2))), (0, .ref (bd 0))]) hx hb d_M_published_4 rfl hl (by decide) rfl (fun ls hl => ?_)
  refine lv_iload_n hx hb d_M_published_5 rfl (lv_at hl 0 rfl) ?_
  refine lv_if_ge (tgt := 13) hx hb d_M_published_6 (by decide) (fun h6 => ?_) (fun h6 => ?_)
  · -- 6 t
    have hL0 : ¬ L = 0 := fun q => absurd h6 (by rw [if_pos q]; decide)
    rw [if_neg hL0] at hl
    refine lv_aload_n hx hb d_M_published_13 rfl (lv_at hl 1 rfl) ?_
    refine va_get (ci := 2) (v := .ref (bd 4)) (C := R_M) (T := F_M) (N := 18) hx hb hw iw_M hown hE.1 hP 0 rfl rfl 4 (by decide) (hw _ tl_m204) (fun _ h9 => h9) rfl d_M_published_14 ?_
    refine lv_iload_n hx hb d_M_published_17 rfl (lv_at hl 0 rfl) ?_
    refine tl_iald (a := (L % 2)) hx hb hE.1 hP 4 1 rfl rfl (by omega) (by decide) d_M_published_18 ?_
    refine lv_topi (nm_r (e' := (nI (tl_pub L sz))) (hz _ (by omega)) ?_)
    exact W.iret hx hb hr (fun t9 ht9 _ => ⟨(nI (tl_pub L sz)), rfl, (by first | rfl | (unfold tl_pub; rw [hL0, hsz0 hL0])), ht9⟩) (fun q h => by cases h) d_M_published_19
  · -- 6 f
    have hL0 : L = 0 := Decidable.byContradiction (fun q => h6 (by rw [if_neg q]; exact nI_pos' (by omega)))
    refine lv_iconst (v := (nI (0))) hx hb d_M_published_9 (by decide) ?_
    refine lv_goto (tgt := 19) hx hb d_M_published_10 (by decide) ?_
    exact W.iret hx hb hr (fun t9 ht9 _ => ⟨(nI (0)), rfl, (by first | rfl | (unfold tl_pub; rw [hL0, hsz0 hL0])), ht9⟩) (fun q h => by cases h) d_M_published_19

set_option maxHeartbeats 4000000 in
set_option maxRecDepth 100000 in
theorem c_M_writes (l : Launch) (D : va_G) (cJ cI cG cZ : ClassId) (bd : Nat → Nat) (E : Nat → Int64) (nf : Nat) (tf : Nat → Int64) (hn hs : Nat → Int32) (rt : Nat → Int64) (dn : Bool) (wm cr : Int32) (cd : Bool) (pf : Nat → Int64) (pl : Nat) (O : Nat → Int64) (ol : Nat) (rw : Nat → Int64) (rl : Nat) (wh : Nat → Int64) (th : Nat → Int32) (L : Nat) (sz : Nat → Nat) (Lp : List Int64) (T : Nat → Nat → Int64)  (hI : tl_G nf hn hs L sz pf pl Lp ol T tf) : Met l y_M_writes (k_M_writes :: tl_ws) { frames := 0, cells := 0, slots := 0, locals := 0 } (tl_Pc D cJ cI cG cZ [.ref (bd 0)] (fun H => va_P D tl_cl (tl_V cJ cI cZ bd E nf tf hn hs rt dn wm cr cd pf pl O ol rw rl wh th) H)) (vp_Si (fun r => r = wm)) 0 0 (fun _ => False) := by
  refine Met.ofW (cc := b_M_writes) (maxL := 1) (ret := (some .int)) (by decide) rfl ?_
  intro p e s m args below meth c s₁ B hml hv
  obtain ⟨rfl, hE, hP⟩ := hv
  have hx := B.exec
  have hb := B.bytes
  have hr := B.returns
  have hw : ∀ w ∈ tl_ws, w.before ([.ref (bd 0)] : List Value).toArray s = true := fun w h => atoms_spec (ws := k_M_writes :: tl_ws) B.pre w (List.mem_cons_of_mem _ h)
  have hown : s.vm.findClass R_M = some m.cls := findClass_of_methodNamed B.named
  have hlocks := B.notSynchronized
  have hl := lv_entry ([.ref (bd 0)]) (n := 1) (Nat.le_of_ble_eq_true rfl)
  rw [lg_entry_eq]
  generalize (lg_sl ([.ref (bd 0)]) ++ List.replicate (1 - (lg_sl ([.ref (bd 0)])).length) Slot.unset).toArray = ls at hl ⊢
  have hl : lv_has ls 1 [(0, .ref (bd 0))] := hl
  have hP : va_P D tl_cl (tl_V cJ cI cZ bd E nf tf hn hs rt dn wm cr cd pf pl O ol rw rl wh th) s.heap := hP
  have hI0 := hI
  obtain ⟨⟨hnf, hL, hh, hz, hsz, hpl, hpf, hp7, hol⟩, hsz0, htf⟩ := hI
  have hpub : tl_pub L sz ≤ 64 := Nat.le_trans (tl_pub_le hsz) hnf
  have hb0 := tl_num_le L 0
  have hb1 := tl_num_le L 1
  refine lv_aload_n hx hb d_M_writes_0 rfl (lv_at hl 0 rfl) ?_
  refine va_get (ci := 2) (v := .int (wm)) (C := R_M) (T := F_M) (N := 18) hx hb hw iw_M hown hE.1 hP 0 rfl rfl 7 (by decide) (hw _ tl_m207) (fun _ h9 => h9) rfl d_M_writes_1 ?_
  exact W.iret hx hb hr (fun t9 ht9 _ => ⟨(wm), rfl, rfl, ht9⟩) (fun q h => by cases h) d_M_writes_4

set_option maxHeartbeats 4000000 in
set_option maxRecDepth 100000 in
theorem c_M_length (l : Launch) (D : va_G) (cJ cI cG cZ : ClassId) (bd : Nat → Nat) (E : Nat → Int64) (nf : Nat) (tf : Nat → Int64) (hn hs : Nat → Int32) (rt : Nat → Int64) (dn : Bool) (wm cr : Int32) (cd : Bool) (pf : Nat → Int64) (pl : Nat) (O : Nat → Int64) (ol : Nat) (rw : Nat → Int64) (rl : Nat) (wh : Nat → Int64) (th : Nat → Int32) (L : Nat) (sz : Nat → Nat) (Lp : List Int64) (T : Nat → Nat → Int64)  (hI : tl_G nf hn hs L sz pf pl Lp ol T tf) : Met l y_M_length (k_M_length :: tl_ws) { frames := 0, cells := 0, slots := 0, locals := 0 } (tl_Pc D cJ cI cG cZ [.ref (bd 0)] (fun H => va_P D tl_cl (tl_V cJ cI cZ bd E nf tf hn hs rt dn wm cr cd pf pl O ol rw rl wh th) H)) (vp_Si (fun r => r = tl_lenA dn nf)) 0 0 (fun _ => False) := by
  refine Met.ofW (cc := b_M_length) (maxL := 1) (ret := (some .int)) (by decide) rfl ?_
  intro p e s m args below meth c s₁ B hml hv
  obtain ⟨rfl, hE, hP⟩ := hv
  have hx := B.exec
  have hb := B.bytes
  have hr := B.returns
  have hw : ∀ w ∈ tl_ws, w.before ([.ref (bd 0)] : List Value).toArray s = true := fun w h => atoms_spec (ws := k_M_length :: tl_ws) B.pre w (List.mem_cons_of_mem _ h)
  have hown : s.vm.findClass R_M = some m.cls := findClass_of_methodNamed B.named
  have hlocks := B.notSynchronized
  have hl := lv_entry ([.ref (bd 0)]) (n := 1) (Nat.le_of_ble_eq_true rfl)
  rw [lg_entry_eq]
  generalize (lg_sl ([.ref (bd 0)]) ++ List.replicate (1 - (lg_sl ([.ref (bd 0)])).length) Slot.unset).toArray = ls at hl ⊢
  have hl : lv_has ls 1 [(0, .ref (bd 0))] := hl
  have hP : va_P D tl_cl (tl_V cJ cI cZ bd E nf tf hn hs rt dn wm cr cd pf pl O ol rw rl wh th) s.heap := hP
  have hI0 := hI
  obtain ⟨⟨hnf, hL, hh, hz, hsz, hpl, hpf, hp7, hol⟩, hsz0, htf⟩ := hI
  have hpub : tl_pub L sz ≤ 64 := Nat.le_trans (tl_pub_le hsz) hnf
  have hb0 := tl_num_le L 0
  have hb1 := tl_num_le L 1
  refine lv_aload_n hx hb d_M_length_0 rfl (lv_at hl 0 rfl) ?_
  refine va_get (ci := 2) (v := .int (tl_bi (dn))) (C := R_M) (T := F_M) (N := 18) hx hb hw iw_M hown hE.1 hP 0 rfl rfl 6 (by decide) (hw _ tl_m206) (fun _ h9 => h9) rfl d_M_length_1 ?_
  refine tl_beq (tgt := 12) hx hb d_M_length_4 (by decide) (fun h4 => ?_) (fun h4 => ?_)
  · -- 4 t
    refine lv_aload_n hx hb d_M_length_12 rfl (lv_at hl 0 rfl) ?_
    refine va_get (ci := 2) (v := .int (nI (nf))) (C := R_M) (T := F_M) (N := 18) hx hb hw iw_M hown hE.1 hP 0 rfl rfl 0 (by decide) (hw _ tl_m200) (fun _ h9 => h9) rfl d_M_length_13 ?_
    exact W.iret hx hb hr (fun t9 ht9 _ => ⟨(nI (nf)), rfl, (by first | (rw [h4]; rfl) | (subst h4; rfl)), ht9⟩) (fun q h => by cases h) d_M_length_16
  · -- 4 f
    refine lv_bipush (v := (-2)) hx hb d_M_length_7 (by decide) ?_
    refine lv_goto (tgt := 16) hx hb d_M_length_9 (by decide) ?_
    exact W.iret hx hb hr (fun t9 ht9 _ => ⟨(-2), rfl, (by first | (rw [h4]; rfl) | (subst h4; rfl)), ht9⟩) (fun q h => by cases h) d_M_length_16

set_option maxHeartbeats 4000000 in
set_option maxRecDepth 100000 in
theorem c_M_isHead (l : Launch) (D : va_G) (cJ cI cG cZ : ClassId) (bd : Nat → Nat) (E : Nat → Int64) (nf : Nat) (tf : Nat → Int64) (hn hs : Nat → Int32) (rt : Nat → Int64) (dn : Bool) (wm cr : Int32) (cd : Bool) (pf : Nat → Int64) (pl : Nat) (O : Nat → Int64) (ol : Nat) (rw : Nat → Int64) (rl : Nat) (wh : Nat → Int64) (th : Nat → Int32) (L : Nat) (sz : Nat → Nat) (Lp : List Int64) (T : Nat → Nat → Int64) (x : Int32) (hI : tl_G nf hn hs L sz pf pl Lp ol T tf) : Met l y_M_isHead (k_M_isHead :: tl_ws) { frames := 0, cells := 0, slots := 0, locals := 0 } (tl_Pc D cJ cI cG cZ [.ref (bd 0), .int (x)] (fun H => va_P D tl_cl (tl_V cJ cI cZ bd E nf tf hn hs rt dn wm cr cd pf pl O ol rw rl wh th) H)) (vp_Si (fun r => r = tl_bi (tl_has L x))) 0 0 (fun _ => False) := by
  refine Met.ofW (cc := b_M_isHead) (maxL := 2) (ret := (some .boolean)) (by decide) rfl ?_
  intro p e s m args below meth c s₁ B hml hv
  obtain ⟨rfl, hE, hP⟩ := hv
  have hx := B.exec
  have hb := B.bytes
  have hr := B.returns
  have hw : ∀ w ∈ tl_ws, w.before ([.ref (bd 0), .int (x)] : List Value).toArray s = true := fun w h => atoms_spec (ws := k_M_isHead :: tl_ws) B.pre w (List.mem_cons_of_mem _ h)
  have hown : s.vm.findClass R_M = some m.cls := findClass_of_methodNamed B.named
  have hlocks := B.notSynchronized
  have hl := lv_entry ([.ref (bd 0), .int (x)]) (n := 2) (Nat.le_of_ble_eq_true rfl)
  rw [lg_entry_eq]
  generalize (lg_sl ([.ref (bd 0), .int (x)]) ++ List.replicate (2 - (lg_sl ([.ref (bd 0), .int (x)])).length) Slot.unset).toArray = ls at hl ⊢
  have hl : lv_has ls 2 [(0, .ref (bd 0)), (1, .int (x))] := hl
  have hP : va_P D tl_cl (tl_V cJ cI cZ bd E nf tf hn hs rt dn wm cr cd pf pl O ol rw rl wh th) s.heap := hP
  have hI0 := hI
  obtain ⟨⟨hnf, hL, hh, hz, hsz, hpl, hpf, hp7, hol⟩, hsz0, htf⟩ := hI
  have hpub : tl_pub L sz ≤ 64 := Nat.le_trans (tl_pub_le hsz) hnf
  have hb0 := tl_num_le L 0
  have hb1 := tl_num_le L 1
  refine lv_iload_n hx hb d_M_isHead_0 rfl (lv_at hl 1 rfl) ?_
  refine lv_if_eq (tgt := 9) hx hb d_M_isHead_1 (by decide) (fun h1 => ?_) (fun h1 => ?_)
  · -- 1 t
    have h1 : x = nI 0 := h1
    subst h1
    refine lv_aload_n hx hb d_M_isHead_9 rfl (lv_at hl 0 rfl) ?_
    refine va_get (ci := 2) (v := .ref (bd 3)) (C := R_M) (T := F_M) (N := 18) hx hb hw iw_M hown hE.1 hP 0 rfl rfl 3 (by decide) (hw _ tl_m203) (fun _ h9 => h9) rfl d_M_isHead_10 ?_
    refine lv_iload_n hx hb d_M_isHead_13 rfl (lv_at hl 1 rfl) ?_
    refine tl_iald (a := 0) hx hb hE.1 hP 3 1 rfl rfl (by omega) (by decide) d_M_isHead_14 ?_
    refine lv_topi (nm_r (e' := (nI (tl_num L 0))) (hh 0 (by omega)) ?_)
    refine tl_zle (tgt := 22) (by omega) hx hb d_M_isHead_15 (by decide) (fun h15 => ?_) (fun h15 => ?_)
    · -- 15 t
      refine lv_iconst (v := (nI (0))) hx hb d_M_isHead_22 (by decide) ?_
      exact W.zret hx hb hr rfl (fun t9 ht9 _ => ⟨(nI (0)), rfl, (by first | exact tl_bi0 (tl_has_no h1 h6) | exact tl_bi0 (by rw [tl_has_j (by omega), h15]; rfl) | exact tl_bi1 (by rw [tl_has_j (by omega)]; exact bne_iff_ne.mpr (by omega))), ht9⟩) (fun q h => by cases h) d_M_isHead_23
    · -- 15 f
      refine lv_iconst (v := (nI (1))) hx hb d_M_isHead_18 (by decide) ?_
      refine lv_goto (tgt := 23) hx hb d_M_isHead_19 (by decide) ?_
      exact W.zret hx hb hr rfl (fun t9 ht9 _ => ⟨(nI (1)), rfl, (by first | exact tl_bi0 (tl_has_no h1 h6) | exact tl_bi0 (by rw [tl_has_j (by omega), h15]; rfl) | exact tl_bi1 (by rw [tl_has_j (by omega)]; exact bne_iff_ne.mpr (by omega))), ht9⟩) (fun q h => by cases h) d_M_isHead_23
  · -- 1 f
    refine lv_iload_n hx hb d_M_isHead_4 rfl (lv_at hl 1 rfl) ?_
    refine lv_iconst (v := (nI (1))) hx hb d_M_isHead_5 (by decide) ?_
    refine lv_icmp_ne (tgt := 22) hx hb d_M_isHead_6 (by decide) (fun h6 => ?_) (fun h6 => ?_)
    · -- 6 t
      refine lv_iconst (v := (nI (0))) hx hb d_M_isHead_22 (by decide) ?_
      exact W.zret hx hb hr rfl (fun t9 ht9 _ => ⟨(nI (0)), rfl, (by first | exact tl_bi0 (tl_has_no h1 h6) | exact tl_bi0 (by rw [tl_has_j (by omega), h15]; rfl) | exact tl_bi1 (by rw [tl_has_j (by omega)]; exact bne_iff_ne.mpr (by omega))), ht9⟩) (fun q h => by cases h) d_M_isHead_23
    · -- 6 f
      subst h6
      refine lv_aload_n hx hb d_M_isHead_9 rfl (lv_at hl 0 rfl) ?_
      refine va_get (ci := 2) (v := .ref (bd 3)) (C := R_M) (T := F_M) (N := 18) hx hb hw iw_M hown hE.1 hP 0 rfl rfl 3 (by decide) (hw _ tl_m203) (fun _ h9 => h9) rfl d_M_isHead_10 ?_
      refine lv_iload_n hx hb d_M_isHead_13 rfl (lv_at hl 1 rfl) ?_
      refine tl_iald (a := 1) hx hb hE.1 hP 3 1 rfl rfl (by omega) (by decide) d_M_isHead_14 ?_
      refine lv_topi (nm_r (e' := (nI (tl_num L 1))) (hh 1 (by omega)) ?_)
      refine tl_zle (tgt := 22) (by omega) hx hb d_M_isHead_15 (by decide) (fun h15 => ?_) (fun h15 => ?_)
      · -- 15 t
        refine lv_iconst (v := (nI (0))) hx hb d_M_isHead_22 (by decide) ?_
        exact W.zret hx hb hr rfl (fun t9 ht9 _ => ⟨(nI (0)), rfl, (by first | exact tl_bi0 (tl_has_no h1 h6) | exact tl_bi0 (by rw [tl_has_j (by omega), h15]; rfl) | exact tl_bi1 (by rw [tl_has_j (by omega)]; exact bne_iff_ne.mpr (by omega))), ht9⟩) (fun q h => by cases h) d_M_isHead_23
      · -- 15 f
        refine lv_iconst (v := (nI (1))) hx hb d_M_isHead_18 (by decide) ?_
        refine lv_goto (tgt := 23) hx hb d_M_isHead_19 (by decide) ?_
        exact W.zret hx hb hr rfl (fun t9 ht9 _ => ⟨(nI (1)), rfl, (by first | exact tl_bi0 (tl_has_no h1 h6) | exact tl_bi0 (by rw [tl_has_j (by omega), h15]; rfl) | exact tl_bi1 (by rw [tl_has_j (by omega)]; exact bne_iff_ne.mpr (by omega))), ht9⟩) (fun q h => by cases h) d_M_isHead_23

set_option maxHeartbeats 4000000 in
set_option maxRecDepth 100000 in
theorem c_M_size (l : Launch) (D : va_G) (cJ cI cG cZ : ClassId) (bd : Nat → Nat) (E : Nat → Int64) (nf : Nat) (tf : Nat → Int64) (hn hs : Nat → Int32) (rt : Nat → Int64) (dn : Bool) (wm cr : Int32) (cd : Bool) (pf : Nat → Int64) (pl : Nat) (O : Nat → Int64) (ol : Nat) (rw : Nat → Int64) (rl : Nat) (wh : Nat → Int64) (th : Nat → Int32) (L : Nat) (sz : Nat → Nat) (Lp : List Int64) (T : Nat → Nat → Int64) (x : Int32) (hI : tl_G nf hn hs L sz pf pl Lp ol T tf) : Met l y_M_size (k_M_size :: tl_ws) { frames := 1, cells := 0, slots := 0, locals := 21 } (tl_Pc D cJ cI cG cZ [.ref (bd 0), .int (x)] (fun H => va_P D tl_cl (tl_V cJ cI cZ bd E nf tf hn hs rt dn wm cr cd pf pl O ol rw rl wh th) H)) (vp_Si (fun r => r = tl_szA L sz x)) 0 0 (fun _ => False) := by
  refine Met.ofW (cc := b_M_size) (maxL := 2) (ret := (some .int)) (by decide) rfl ?_
  intro p e s m args below meth c s₁ B hml hv
  obtain ⟨rfl, hE, hP⟩ := hv
  have hx := B.exec
  have hb := B.bytes
  have hr := B.returns
  have hw : ∀ w ∈ tl_ws, w.before ([.ref (bd 0), .int (x)] : List Value).toArray s = true := fun w h => atoms_spec (ws := k_M_size :: tl_ws) B.pre w (List.mem_cons_of_mem _ h)
  have hown : s.vm.findClass R_M = some m.cls := findClass_of_methodNamed B.named
  have hlocks := B.notSynchronized
  have hl := lv_entry ([.ref (bd 0), .int (x)]) (n := 2) (Nat.le_of_ble_eq_true rfl)
  rw [lg_entry_eq]
  generalize (lg_sl ([.ref (bd 0), .int (x)]) ++ List.replicate (2 - (lg_sl ([.ref (bd 0), .int (x)])).length) Slot.unset).toArray = ls at hl ⊢
  have hl : lv_has ls 2 [(0, .ref (bd 0)), (1, .int (x))] := hl
  have hP : va_P D tl_cl (tl_V cJ cI cZ bd E nf tf hn hs rt dn wm cr cd pf pl O ol rw rl wh th) s.heap := hP
  have hI0 := hI
  obtain ⟨⟨hnf, hL, hh, hz, hsz, hpl, hpf, hp7, hol⟩, hsz0, htf⟩ := hI
  have hpub : tl_pub L sz ≤ 64 := Nat.le_trans (tl_pub_le hsz) hnf
  have hb0 := tl_num_le L 0
  have hb1 := tl_num_le L 1
  refine lv_aload_n hx hb d_M_size_0 rfl (lv_at hl 0 rfl) ?_
  refine lv_iload_n hx hb d_M_size_1 rfl (lv_at hl 1 rfl) ?_
  refine tl_goI (v := (tl_bi (tl_has L (x)))) (va_runV (As := [.int (x)]) (rest := []) ⟨hx, hb, hml, hown, hw⟩ (c_M_isHead l D cJ cI cG cZ bd E nf tf hn hs rt dn wm cr cd pf pl O ol rw rl wh th L sz Lp T (x) hI0) (⟨tl_cB hw tl_m283 tl_m3 tl_m281 dd_M_isHead rfl rfl ⟨Nat.le_of_ble_eq_true rfl, Nat.le_of_ble_eq_true rfl⟩, hw _ tl_m282, hw _ tl_m376⟩) (tl_preV hE hP (va_recv (q0 := 0) (ci := 2) (q := (R_M, F_M, 18)) hE.1 hP rfl rfl)) rfl rfl hl.1 rfl (lv_room (Nat.le_of_ble_eq_true rfl)) d_M_size_2 ⟨Nat.zero_le _, Nat.zero_le _⟩) ?_
  refine tl_beq (tgt := 17) hx hb d_M_size_5 (by decide) (fun h5 => ?_) (fun h5 => ?_)
  · -- 5 t
    refine lv_iconst (v := (-1)) hx hb d_M_size_17 (by decide) ?_
    exact W.iret hx hb hr (fun t9 ht9 _ => ⟨(-1), rfl, (by unfold tl_szA; rw [h5]; first | rfl | (rw [nI_clamp (by omega)]; rfl)), ht9⟩) (fun q h => by cases h) d_M_size_18
  · -- 5 f
    obtain ⟨j, hj, rfl⟩ := tl_has_ex h5
    refine lv_aload_n hx hb d_M_size_8 rfl (lv_at hl 0 rfl) ?_
    refine va_get (ci := 2) (v := .ref (bd 4)) (C := R_M) (T := F_M) (N := 18) hx hb hw iw_M hown hE.1 hP 0 rfl rfl 4 (by decide) (hw _ tl_m204) (fun _ h9 => h9) rfl d_M_size_9 ?_
    refine lv_iload_n hx hb d_M_size_12 rfl (lv_at hl 1 rfl) ?_
    refine tl_iald (a := j) hx hb hE.1 hP 4 1 rfl rfl (by omega) (by decide) d_M_size_13 ?_
    refine lv_topi (nm_r (e' := (nI (sz j))) (hz j hj) ?_)
    refine lv_goto (tgt := 18) hx hb d_M_size_14 (by decide) ?_
    exact W.iret hx hb hr (fun t9 ht9 _ => ⟨(nI (sz j)), rfl, (by unfold tl_szA; rw [h5]; first | rfl | (rw [nI_clamp (by omega)]; rfl)), ht9⟩) (fun q h => by cases h) d_M_size_18

set_option maxHeartbeats 4000000 in
set_option maxRecDepth 100000 in
theorem c_M_root (l : Launch) (D : va_G) (cJ cI cG cZ : ClassId) (bd : Nat → Nat) (E : Nat → Int64) (nf : Nat) (tf : Nat → Int64) (hn hs : Nat → Int32) (rt : Nat → Int64) (dn : Bool) (wm cr : Int32) (cd : Bool) (pf : Nat → Int64) (pl : Nat) (O : Nat → Int64) (ol : Nat) (rw : Nat → Int64) (rl : Nat) (wh : Nat → Int64) (th : Nat → Int32) (L : Nat) (sz : Nat → Nat) (Lp : List Int64) (T : Nat → Nat → Int64) (x : Int32) (hI : tl_G nf hn hs L sz pf pl Lp ol T tf) : Met l y_M_root (k_M_root :: tl_ws) { frames := 1, cells := 0, slots := 0, locals := 21 } (tl_Pc D cJ cI cG cZ [.ref (bd 0), .int (x)] (fun H => va_P D tl_cl (tl_V cJ cI cZ bd E nf tf hn hs rt dn wm cr cd pf pl O ol rw rl wh th) H)) (vp_Sl (fun r => r = tl_rtA L rt x)) 0 0 (fun _ => False) := by
  refine Met.ofW (cc := b_M_root) (maxL := 2) (ret := (some .long)) (by decide) rfl ?_
  intro p e s m args below meth c s₁ B hml hv
  obtain ⟨rfl, hE, hP⟩ := hv
  have hx := B.exec
  have hb := B.bytes
  have hr := B.returns
  have hw : ∀ w ∈ tl_ws, w.before ([.ref (bd 0), .int (x)] : List Value).toArray s = true := fun w h => atoms_spec (ws := k_M_root :: tl_ws) B.pre w (List.mem_cons_of_mem _ h)
  have hown : s.vm.findClass R_M = some m.cls := findClass_of_methodNamed B.named
  have hlocks := B.notSynchronized
  have hl := lv_entry ([.ref (bd 0), .int (x)]) (n := 2) (Nat.le_of_ble_eq_true rfl)
  rw [lg_entry_eq]
  generalize (lg_sl ([.ref (bd 0), .int (x)]) ++ List.replicate (2 - (lg_sl ([.ref (bd 0), .int (x)])).length) Slot.unset).toArray = ls at hl ⊢
  have hl : lv_has ls 2 [(0, .ref (bd 0)), (1, .int (x))] := hl
  have hP : va_P D tl_cl (tl_V cJ cI cZ bd E nf tf hn hs rt dn wm cr cd pf pl O ol rw rl wh th) s.heap := hP
  have hI0 := hI
  obtain ⟨⟨hnf, hL, hh, hz, hsz, hpl, hpf, hp7, hol⟩, hsz0, htf⟩ := hI
  have hpub : tl_pub L sz ≤ 64 := Nat.le_trans (tl_pub_le hsz) hnf
  have hb0 := tl_num_le L 0
  have hb1 := tl_num_le L 1
  refine lv_aload_n hx hb d_M_root_0 rfl (lv_at hl 0 rfl) ?_
  refine lv_iload_n hx hb d_M_root_1 rfl (lv_at hl 1 rfl) ?_
  refine tl_goI (v := (tl_bi (tl_has L (x)))) (va_runV (As := [.int (x)]) (rest := []) ⟨hx, hb, hml, hown, hw⟩ (c_M_isHead l D cJ cI cG cZ bd E nf tf hn hs rt dn wm cr cd pf pl O ol rw rl wh th L sz Lp T (x) hI0) (⟨tl_cB hw tl_m283 tl_m3 tl_m281 dd_M_isHead rfl rfl ⟨Nat.le_of_ble_eq_true rfl, Nat.le_of_ble_eq_true rfl⟩, hw _ tl_m282, hw _ tl_m376⟩) (tl_preV hE hP (va_recv (q0 := 0) (ci := 2) (q := (R_M, F_M, 18)) hE.1 hP rfl rfl)) rfl rfl hl.1 rfl (lv_room (Nat.le_of_ble_eq_true rfl)) d_M_root_2 ⟨Nat.zero_le _, Nat.zero_le _⟩) ?_
  refine tl_beq (tgt := 17) hx hb d_M_root_5 (by decide) (fun h5 => ?_) (fun h5 => ?_)
  · -- 5 t
    refine lv_lconst (v := 0) hx hb d_M_root_17 (by decide) ?_
    exact W.lret hx hb hr (fun t9 ht9 _ => ⟨(0), rfl, (by unfold tl_rtA; rw [h5]; first | rfl | (rw [nI_clamp (by omega)]; rfl)), ht9⟩) (fun q h => by cases h) d_M_root_18
  · -- 5 f
    obtain ⟨j, hj, rfl⟩ := tl_has_ex h5
    refine lv_aload_n hx hb d_M_root_8 rfl (lv_at hl 0 rfl) ?_
    refine va_get (ci := 2) (v := .ref (bd 5)) (C := R_M) (T := F_M) (N := 18) hx hb hw iw_M hown hE.1 hP 0 rfl rfl 5 (by decide) (hw _ tl_m205) (fun _ h9 => h9) rfl d_M_root_9 ?_
    refine lv_iload_n hx hb d_M_root_12 rfl (lv_at hl 1 rfl) ?_
    refine tl_lald (a := j) hx hb hE.1 hP 5 0 rfl rfl (by omega) (by decide) d_M_root_13 ?_
    refine lv_goto (tgt := 18) hx hb d_M_root_14 (by decide) ?_
    exact W.lret hx hb hr (fun t9 ht9 _ => ⟨(rt j), rfl, (by unfold tl_rtA; rw [h5]; first | rfl | (rw [nI_clamp (by omega)]; rfl)), ht9⟩) (fun q h => by cases h) d_M_root_18

set_option maxHeartbeats 4000000 in
set_option maxRecDepth 100000 in
theorem c_M_latest (l : Launch) (D : va_G) (cJ cI cG cZ : ClassId) (bd : Nat → Nat) (E : Nat → Int64) (nf : Nat) (tf : Nat → Int64) (hn hs : Nat → Int32) (rt : Nat → Int64) (dn : Bool) (wm cr : Int32) (cd : Bool) (pf : Nat → Int64) (pl : Nat) (O : Nat → Int64) (ol : Nat) (rw : Nat → Int64) (rl : Nat) (wh : Nat → Int64) (th : Nat → Int32) (L : Nat) (sz : Nat → Nat) (Lp : List Int64) (T : Nat → Nat → Int64)  (hI : tl_G nf hn hs L sz pf pl Lp ol T tf) : Met l y_M_latest (k_M_latest :: tl_ws) { frames := 2, cells := 0, slots := 0, locals := 41 } (tl_Pc D cJ cI cG cZ [.ref (bd 0)] (fun H => va_P D tl_cl (tl_V cJ cI cZ bd E nf tf hn hs rt dn wm cr cd pf pl O ol rw rl wh th) H)) (vp_Si (fun r => r = nI L)) 0 0 (fun _ => False) := by
  refine Met.ofW (cc := b_M_latest) (maxL := 1) (ret := (some .int)) (by decide) rfl ?_
  intro p e s m args below meth c s₁ B hml hv
  obtain ⟨rfl, hE, hP⟩ := hv
  have hx := B.exec
  have hb := B.bytes
  have hr := B.returns
  have hw : ∀ w ∈ tl_ws, w.before ([.ref (bd 0)] : List Value).toArray s = true := fun w h => atoms_spec (ws := k_M_latest :: tl_ws) B.pre w (List.mem_cons_of_mem _ h)
  have hown : s.vm.findClass R_M = some m.cls := findClass_of_methodNamed B.named
  have hlocks := B.notSynchronized
  have hl := lv_entry ([.ref (bd 0)]) (n := 1) (Nat.le_of_ble_eq_true rfl)
  rw [lg_entry_eq]
  generalize (lg_sl ([.ref (bd 0)]) ++ List.replicate (1 - (lg_sl ([.ref (bd 0)])).length) Slot.unset).toArray = ls at hl ⊢
  have hl : lv_has ls 1 [(0, .ref (bd 0))] := hl
  have hP : va_P D tl_cl (tl_V cJ cI cZ bd E nf tf hn hs rt dn wm cr cd pf pl O ol rw rl wh th) s.heap := hP
  have hI0 := hI
  obtain ⟨⟨hnf, hL, hh, hz, hsz, hpl, hpf, hp7, hol⟩, hsz0, htf⟩ := hI
  have hpub : tl_pub L sz ≤ 64 := Nat.le_trans (tl_pub_le hsz) hnf
  have hb0 := tl_num_le L 0
  have hb1 := tl_num_le L 1
  refine lv_aload_n hx hb d_M_latest_0 rfl (lv_at hl 0 rfl) ?_
  refine tl_goI (v := (nI (L))) (va_runV (As := []) (rest := []) ⟨hx, hb, hml, hown, hw⟩ (c_M_latestNumber l D cJ cI cG cZ bd E nf tf hn hs rt dn wm cr cd pf pl O ol rw rl wh th L sz Lp T  hI0) (⟨tl_cB hw tl_m260 tl_m3 tl_m258 dd_M_latestNumber rfl rfl ⟨Nat.le_of_ble_eq_true rfl, Nat.le_of_ble_eq_true rfl⟩, hw _ tl_m259, hw _ tl_m375⟩) (tl_preV hE hP (va_recv (q0 := 0) (ci := 2) (q := (R_M, F_M, 18)) hE.1 hP rfl rfl)) rfl rfl hl.1 rfl (lv_room (Nat.le_of_ble_eq_true rfl)) d_M_latest_1 ⟨Nat.zero_le _, Nat.zero_le _⟩) ?_
  exact W.iret hx hb hr (fun t9 ht9 _ => ⟨(nI (L)), rfl, rfl, ht9⟩) (fun q h => by cases h) d_M_latest_4

set_option maxHeartbeats 4000000 in
set_option maxRecDepth 100000 in
theorem c_M_tile (l : Launch) (D : va_G) (cJ cI cG cZ : ClassId) (bd : Nat → Nat) (E : Nat → Int64) (nf : Nat) (tf : Nat → Int64) (hn hs : Nat → Int32) (rt : Nat → Int64) (dn : Bool) (wm cr : Int32) (cd : Bool) (pf : Nat → Int64) (pl : Nat) (O : Nat → Int64) (ol : Nat) (rw : Nat → Int64) (rl : Nat) (wh : Nat → Int64) (th : Nat → Int32) (L : Nat) (sz : Nat → Nat) (Lp : List Int64) (T : Nat → Nat → Int64) (b t i : Int32) (hI : tl_G nf hn hs L sz pf pl Lp ol T tf) : Met l y_M_tile (k_M_tile :: tl_ws) { frames := 0, cells := 0, slots := 0, locals := 0 } (tl_Pc D cJ cI cG cZ [.ref (bd 0), .int (b), .int (t), .int (i)] (fun H => va_P D tl_cl (tl_V cJ cI cZ bd E nf tf hn hs rt dn wm cr cd pf pl O ol rw rl wh th) H)) (vp_Sl (fun r => r = tl_tileA T b t i)) 0 0 (fun _ => False) := by
  refine Met.ofW (cc := b_M_tile) (maxL := 4) (ret := (some .long)) (by decide) rfl ?_
  intro p e s m args below meth c s₁ B hml hv
  obtain ⟨rfl, hE, hP⟩ := hv
  have hx := B.exec
  have hb := B.bytes
  have hr := B.returns
  have hw : ∀ w ∈ tl_ws, w.before ([.ref (bd 0), .int (b), .int (t), .int (i)] : List Value).toArray s = true := fun w h => atoms_spec (ws := k_M_tile :: tl_ws) B.pre w (List.mem_cons_of_mem _ h)
  have hown : s.vm.findClass R_M = some m.cls := findClass_of_methodNamed B.named
  have hlocks := B.notSynchronized
  have hl := lv_entry ([.ref (bd 0), .int (b), .int (t), .int (i)]) (n := 4) (Nat.le_of_ble_eq_true rfl)
  rw [lg_entry_eq]
  generalize (lg_sl ([.ref (bd 0), .int (b), .int (t), .int (i)]) ++ List.replicate (4 - (lg_sl ([.ref (bd 0), .int (b), .int (t), .int (i)])).length) Slot.unset).toArray = ls at hl ⊢
  have hl : lv_has ls 4 [(0, .ref (bd 0)), (1, .int (b)), (2, .int (t)), (3, .int (i))] := hl
  have hP : va_P D tl_cl (tl_V cJ cI cZ bd E nf tf hn hs rt dn wm cr cd pf pl O ol rw rl wh th) s.heap := hP
  have hI0 := hI
  obtain ⟨⟨hnf, hL, hh, hz, hsz, hpl, hpf, hp7, hol⟩, hsz0, htf⟩ := hI
  have hpub : tl_pub L sz ≤ 64 := Nat.le_trans (tl_pub_le hsz) hnf
  have hb0 := tl_num_le L 0
  have hb1 := tl_num_le L 1
  refine lv_iload_n hx hb d_M_tile_0 rfl (lv_at hl 3 rfl) ?_
  refine lv_if_lt (tgt := 37) hx hb d_M_tile_1 (by decide) (fun h1 => ?_) (fun h1 => ?_)
  · -- 1 t
    refine lv_lconst (v := 0) hx hb d_M_tile_37 (by decide) ?_
    exact W.lret hx hb hr (fun t9 ht9 _ => ⟨(0), rfl, (by first | (unfold tl_tileA; rw [if_pos h1]; done) | (unfold tl_tileA; rw [if_neg h1, if_pos (tl_78 h7)]; done) | (rw [tl_tile0 (fun q => q.2.1 h11) (fun q => by rw [q.2] at h11; exact absurd h11 (by decide))]; done) | (rw [tl_tile0 (fun q => by rw [q.1] at h15; exact absurd h15 (by decide)) (fun q => by rw [q.1] at h15; exact absurd h15 (by decide))]; done) | (rw [tl_tile0 (fun q => by rw [q.1] at h20; exact absurd h20 (by decide)) (fun q => by rw [q.1] at h20; exact absurd h20 (by decide))]; done) | (rw [tl_tile0 (fun q => h25 q.1) (fun q => h34 (by rw [q.2]; decide))]; done) | (rw [tl_tile0 (fun q => q.2.2 (tl_78 (Int32.not_le.mp h34))) (fun q => by rw [h25] at q; exact absurd q.1 (by decide))]; done)), ht9⟩) (fun q h => by cases h) d_M_tile_38
  · -- 1 f
    refine lv_iload_n hx hb d_M_tile_4 rfl (lv_at hl 3 rfl) ?_
    refine lv_bipush (v := (nI (7))) hx hb d_M_tile_5 (by decide) ?_
    refine lv_icmp_gt (tgt := 37) hx hb d_M_tile_7 (by decide) (fun h7 => ?_) (fun h7 => ?_)
    · -- 7 t
      refine lv_lconst (v := 0) hx hb d_M_tile_37 (by decide) ?_
      exact W.lret hx hb hr (fun t9 ht9 _ => ⟨(0), rfl, (by first | (unfold tl_tileA; rw [if_pos h1]; done) | (unfold tl_tileA; rw [if_neg h1, if_pos (tl_78 h7)]; done) | (rw [tl_tile0 (fun q => q.2.1 h11) (fun q => by rw [q.2] at h11; exact absurd h11 (by decide))]; done) | (rw [tl_tile0 (fun q => by rw [q.1] at h15; exact absurd h15 (by decide)) (fun q => by rw [q.1] at h15; exact absurd h15 (by decide))]; done) | (rw [tl_tile0 (fun q => by rw [q.1] at h20; exact absurd h20 (by decide)) (fun q => by rw [q.1] at h20; exact absurd h20 (by decide))]; done) | (rw [tl_tile0 (fun q => h25 q.1) (fun q => h34 (by rw [q.2]; decide))]; done) | (rw [tl_tile0 (fun q => q.2.2 (tl_78 (Int32.not_le.mp h34))) (fun q => by rw [h25] at q; exact absurd q.1 (by decide))]; done)), ht9⟩) (fun q h => by cases h) d_M_tile_38
    · -- 7 f
      refine lv_iload_n hx hb d_M_tile_10 rfl (lv_at hl 2 rfl) ?_
      refine lv_if_lt (tgt := 37) hx hb d_M_tile_11 (by decide) (fun h11 => ?_) (fun h11 => ?_)
      · -- 11 t
        refine lv_lconst (v := 0) hx hb d_M_tile_37 (by decide) ?_
        exact W.lret hx hb hr (fun t9 ht9 _ => ⟨(0), rfl, (by first | (unfold tl_tileA; rw [if_pos h1]; done) | (unfold tl_tileA; rw [if_neg h1, if_pos (tl_78 h7)]; done) | (rw [tl_tile0 (fun q => q.2.1 h11) (fun q => by rw [q.2] at h11; exact absurd h11 (by decide))]; done) | (rw [tl_tile0 (fun q => by rw [q.1] at h15; exact absurd h15 (by decide)) (fun q => by rw [q.1] at h15; exact absurd h15 (by decide))]; done) | (rw [tl_tile0 (fun q => by rw [q.1] at h20; exact absurd h20 (by decide)) (fun q => by rw [q.1] at h20; exact absurd h20 (by decide))]; done) | (rw [tl_tile0 (fun q => h25 q.1) (fun q => h34 (by rw [q.2]; decide))]; done) | (rw [tl_tile0 (fun q => q.2.2 (tl_78 (Int32.not_le.mp h34))) (fun q => by rw [h25] at q; exact absurd q.1 (by decide))]; done)), ht9⟩) (fun q h => by cases h) d_M_tile_38
      · -- 11 f
        refine lv_iload_n hx hb d_M_tile_14 rfl (lv_at hl 1 rfl) ?_
        refine lv_if_lt (tgt := 37) hx hb d_M_tile_15 (by decide) (fun h15 => ?_) (fun h15 => ?_)
        · -- 15 t
          refine lv_lconst (v := 0) hx hb d_M_tile_37 (by decide) ?_
          exact W.lret hx hb hr (fun t9 ht9 _ => ⟨(0), rfl, (by first | (unfold tl_tileA; rw [if_pos h1]; done) | (unfold tl_tileA; rw [if_neg h1, if_pos (tl_78 h7)]; done) | (rw [tl_tile0 (fun q => q.2.1 h11) (fun q => by rw [q.2] at h11; exact absurd h11 (by decide))]; done) | (rw [tl_tile0 (fun q => by rw [q.1] at h15; exact absurd h15 (by decide)) (fun q => by rw [q.1] at h15; exact absurd h15 (by decide))]; done) | (rw [tl_tile0 (fun q => by rw [q.1] at h20; exact absurd h20 (by decide)) (fun q => by rw [q.1] at h20; exact absurd h20 (by decide))]; done) | (rw [tl_tile0 (fun q => h25 q.1) (fun q => h34 (by rw [q.2]; decide))]; done) | (rw [tl_tile0 (fun q => q.2.2 (tl_78 (Int32.not_le.mp h34))) (fun q => by rw [h25] at q; exact absurd q.1 (by decide))]; done)), ht9⟩) (fun q h => by cases h) d_M_tile_38
        · -- 15 f
          refine lv_iload_n hx hb d_M_tile_18 rfl (lv_at hl 1 rfl) ?_
          refine lv_iconst (v := (nI (1))) hx hb d_M_tile_19 (by decide) ?_
          refine lv_icmp_gt (tgt := 37) hx hb d_M_tile_20 (by decide) (fun h20 => ?_) (fun h20 => ?_)
          · -- 20 t
            refine lv_lconst (v := 0) hx hb d_M_tile_37 (by decide) ?_
            exact W.lret hx hb hr (fun t9 ht9 _ => ⟨(0), rfl, (by first | (unfold tl_tileA; rw [if_pos h1]; done) | (unfold tl_tileA; rw [if_neg h1, if_pos (tl_78 h7)]; done) | (rw [tl_tile0 (fun q => q.2.1 h11) (fun q => by rw [q.2] at h11; exact absurd h11 (by decide))]; done) | (rw [tl_tile0 (fun q => by rw [q.1] at h15; exact absurd h15 (by decide)) (fun q => by rw [q.1] at h15; exact absurd h15 (by decide))]; done) | (rw [tl_tile0 (fun q => by rw [q.1] at h20; exact absurd h20 (by decide)) (fun q => by rw [q.1] at h20; exact absurd h20 (by decide))]; done) | (rw [tl_tile0 (fun q => h25 q.1) (fun q => h34 (by rw [q.2]; decide))]; done) | (rw [tl_tile0 (fun q => q.2.2 (tl_78 (Int32.not_le.mp h34))) (fun q => by rw [h25] at q; exact absurd q.1 (by decide))]; done)), ht9⟩) (fun q h => by cases h) d_M_tile_38
          · -- 20 f
            refine lv_iload_n hx hb d_M_tile_23 rfl (lv_at hl 2 rfl) ?_
            refine lv_iload_n hx hb d_M_tile_24 rfl (lv_at hl 1 rfl) ?_
            refine lv_if_ne (tgt := 33) hx hb d_M_tile_25 (by decide) (fun h25 => ?_) (fun h25 => ?_)
            · -- 25 t
              refine lv_iconst (v := (nI (0))) hx hb d_M_tile_33 (by decide) ?_
              refine lv_icmp_le (tgt := 39) hx hb d_M_tile_34 (by decide) (fun h34 => ?_) (fun h34 => ?_)
              · -- 34 t
                obtain ⟨j, hj, rfl⟩ := tl_ixle (n := 7) (by omega) h1 h7
                obtain ⟨a, ha31, rfl⟩ := nI_of h11
                have ha := (nI_leI ha31 (by decide)).mp h34
                obtain ⟨bb, hbb, rfl⟩ := tl_ixle (n := 1) (by omega) h15 h20
                have hb1 : bb = 1 := by
                  rcases (show bb = 0 ∨ bb = 1 by omega) with q | q
                  · subst q; exact absurd rfl h25
                  · exact q
                subst hb1
                refine lv_iload_n hx hb d_M_tile_39 rfl (lv_at hl 1 rfl) ?_
                refine lv_if_ne (tgt := 57) hx hb d_M_tile_40 (by decide) (fun h40 => ?_) (fun h40 => ?_)
                · -- 40 t
                  refine lv_aload_n hx hb d_M_tile_57 rfl (lv_at hl 0 rfl) ?_
                  refine va_get (ci := 2) (v := .ref (bd 2)) (C := R_M) (T := F_M) (N := 18) hx hb hw iw_M hown hE.1 hP 0 rfl rfl 2 (by decide) (hw _ tl_m202) (fun _ h9 => h9) rfl d_M_tile_58 ?_
                  refine lv_bipush (v := (nI (64))) hx hb d_M_tile_61 (by decide) ?_
                  refine lv_iload_n hx hb d_M_tile_63 rfl (lv_at hl 3 rfl) ?_
                  refine lv_iadd hx hb d_M_tile_64 ?_
                  refine lv_topi (nm_r (e' := (nI (64 + j))) (nI_add _ _) ?_)
                  refine tl_lald (a := (64 + j)) hx hb hE.1 hP 2 0 rfl rfl (by omega) (by decide) d_M_tile_65 ?_
                  refine lv_topl (nm_r (e' := (T 8 j)) (by rw [htf _ (by omega), show (64 + j) / 8 = 8 by omega, show (64 + j) % 8 = j by omega]) ?_)
                  exact W.lret hx hb hr (fun t9 ht9 _ => ⟨(T 8 j), rfl, (by unfold tl_tileA; rw [if_neg h1, if_neg (fun q => absurd ((nI_leI (by decide) (by omega)).mp q) (by omega))]; first | (rw [if_pos h25, if_neg h11, if_neg (fun q => absurd ((nI_leI (by decide) (by omega)).mp q) (by omega)), nI_clamp (by omega), nI_clamp (by omega)]; done) | (rw [if_neg h25, if_pos rfl, if_pos (by rw [show a = 0 by omega]; rfl), nI_clamp (by omega)]; done)), ht9⟩) (fun q h => by cases h) d_M_tile_66
                · -- 40 f
                  exact absurd h40 h25
              · -- 34 f
                refine lv_lconst (v := 0) hx hb d_M_tile_37 (by decide) ?_
                exact W.lret hx hb hr (fun t9 ht9 _ => ⟨(0), rfl, (by first | (unfold tl_tileA; rw [if_pos h1]; done) | (unfold tl_tileA; rw [if_neg h1, if_pos (tl_78 h7)]; done) | (rw [tl_tile0 (fun q => q.2.1 h11) (fun q => by rw [q.2] at h11; exact absurd h11 (by decide))]; done) | (rw [tl_tile0 (fun q => by rw [q.1] at h15; exact absurd h15 (by decide)) (fun q => by rw [q.1] at h15; exact absurd h15 (by decide))]; done) | (rw [tl_tile0 (fun q => by rw [q.1] at h20; exact absurd h20 (by decide)) (fun q => by rw [q.1] at h20; exact absurd h20 (by decide))]; done) | (rw [tl_tile0 (fun q => h25 q.1) (fun q => h34 (by rw [q.2]; decide))]; done) | (rw [tl_tile0 (fun q => q.2.2 (tl_78 (Int32.not_le.mp h34))) (fun q => by rw [h25] at q; exact absurd q.1 (by decide))]; done)), ht9⟩) (fun q h => by cases h) d_M_tile_38
            · -- 25 f
              refine lv_bipush (v := (nI (7))) hx hb d_M_tile_28 (by decide) ?_
              refine lv_goto (tgt := 34) hx hb d_M_tile_30 (by decide) ?_
              refine lv_icmp_le (tgt := 39) hx hb d_M_tile_34 (by decide) (fun h34 => ?_) (fun h34 => ?_)
              · -- 34 t
                obtain ⟨j, hj, rfl⟩ := tl_ixle (n := 7) (by omega) h1 h7
                obtain ⟨a, ha31, rfl⟩ := nI_of h11
                have ha := (nI_leI ha31 (by decide)).mp h34
                refine lv_iload_n hx hb d_M_tile_39 rfl (lv_at hl 1 rfl) ?_
                refine lv_if_ne (tgt := 57) hx hb d_M_tile_40 (by decide) (fun h40 => ?_) (fun h40 => ?_)
                · -- 40 t
                  exact absurd h25 h40
                · -- 40 f
                  refine lv_aload_n hx hb d_M_tile_43 rfl (lv_at hl 0 rfl) ?_
                  refine va_get (ci := 2) (v := .ref (bd 2)) (C := R_M) (T := F_M) (N := 18) hx hb hw iw_M hown hE.1 hP 0 rfl rfl 2 (by decide) (hw _ tl_m202) (fun _ h9 => h9) rfl d_M_tile_44 ?_
                  refine lv_bipush (v := (nI (8))) hx hb d_M_tile_47 (by decide) ?_
                  refine lv_iload_n hx hb d_M_tile_49 rfl (lv_at hl 2 rfl) ?_
                  refine lv_imul hx hb d_M_tile_50 ?_
                  refine lv_topi (nm_r (e' := (nI (8 * a))) (pk_mul _ _) ?_)
                  refine lv_iload_n hx hb d_M_tile_51 rfl (lv_at hl 3 rfl) ?_
                  refine lv_iadd hx hb d_M_tile_52 ?_
                  refine lv_topi (nm_r (e' := (nI ((8 * a) + j))) (nI_add _ _) ?_)
                  refine tl_lald (a := ((8 * a) + j)) hx hb hE.1 hP 2 0 rfl rfl (by omega) (by decide) d_M_tile_53 ?_
                  refine lv_topl (nm_r (e' := (T a j)) (by rw [htf _ (by omega), show (8 * a + j) / 8 = a by omega, show (8 * a + j) % 8 = j by omega]) ?_)
                  refine lv_goto (tgt := 66) hx hb d_M_tile_54 (by decide) ?_
                  exact W.lret hx hb hr (fun t9 ht9 _ => ⟨(T a j), rfl, (by unfold tl_tileA; rw [if_neg h1, if_neg (fun q => absurd ((nI_leI (by decide) (by omega)).mp q) (by omega))]; first | (rw [if_pos h25, if_neg h11, if_neg (fun q => absurd ((nI_leI (by decide) (by omega)).mp q) (by omega)), nI_clamp (by omega), nI_clamp (by omega)]; done) | (rw [if_neg h25, if_pos rfl, if_pos (by rw [show a = 0 by omega]; rfl), nI_clamp (by omega)]; done)), ht9⟩) (fun q h => by cases h) d_M_tile_66
              · -- 34 f
                refine lv_lconst (v := 0) hx hb d_M_tile_37 (by decide) ?_
                exact W.lret hx hb hr (fun t9 ht9 _ => ⟨(0), rfl, (by first | (unfold tl_tileA; rw [if_pos h1]; done) | (unfold tl_tileA; rw [if_neg h1, if_pos (tl_78 h7)]; done) | (rw [tl_tile0 (fun q => q.2.1 h11) (fun q => by rw [q.2] at h11; exact absurd h11 (by decide))]; done) | (rw [tl_tile0 (fun q => by rw [q.1] at h15; exact absurd h15 (by decide)) (fun q => by rw [q.1] at h15; exact absurd h15 (by decide))]; done) | (rw [tl_tile0 (fun q => by rw [q.1] at h20; exact absurd h20 (by decide)) (fun q => by rw [q.1] at h20; exact absurd h20 (by decide))]; done) | (rw [tl_tile0 (fun q => h25 q.1) (fun q => h34 (by rw [q.2]; decide))]; done) | (rw [tl_tile0 (fun q => q.2.2 (tl_78 (Int32.not_le.mp h34))) (fun q => by rw [h25] at q; exact absurd q.1 (by decide))]; done)), ht9⟩) (fun q h => by cases h) d_M_tile_38

set_option maxHeartbeats 4000000 in
set_option maxRecDepth 100000 in
theorem c_M_entry (l : Launch) (D : va_G) (cJ cI cG cZ : ClassId) (bd : Nat → Nat) (E : Nat → Int64) (nf : Nat) (tf : Nat → Int64) (hn hs : Nat → Int32) (rt : Nat → Int64) (dn : Bool) (wm cr : Int32) (cd : Bool) (pf : Nat → Int64) (pl : Nat) (O : Nat → Int64) (ol : Nat) (rw : Nat → Int64) (rl : Nat) (wh : Nat → Int64) (th : Nat → Int32) (L : Nat) (sz : Nat → Nat) (Lp : List Int64) (T : Nat → Nat → Int64) (x : Int32) (hI : tl_G nf hn hs L sz pf pl Lp ol T tf) : Met l y_M_entry (k_M_entry :: tl_ws) { frames := 0, cells := 0, slots := 0, locals := 0 } (tl_Pc D cJ cI cG cZ [.ref (bd 0), .int (x)] (fun H => va_P D tl_cl (tl_V cJ cI cZ bd E nf tf hn hs rt dn wm cr cd pf pl O ol rw rl wh th) H)) (vp_Sl (fun r => r = tl_entA E nf x)) 0 0 (fun _ => False) := by
  refine Met.ofW (cc := b_M_entry) (maxL := 2) (ret := (some .long)) (by decide) rfl ?_
  intro p e s m args below meth c s₁ B hml hv
  obtain ⟨rfl, hE, hP⟩ := hv
  have hx := B.exec
  have hb := B.bytes
  have hr := B.returns
  have hw : ∀ w ∈ tl_ws, w.before ([.ref (bd 0), .int (x)] : List Value).toArray s = true := fun w h => atoms_spec (ws := k_M_entry :: tl_ws) B.pre w (List.mem_cons_of_mem _ h)
  have hown : s.vm.findClass R_M = some m.cls := findClass_of_methodNamed B.named
  have hlocks := B.notSynchronized
  have hl := lv_entry ([.ref (bd 0), .int (x)]) (n := 2) (Nat.le_of_ble_eq_true rfl)
  rw [lg_entry_eq]
  generalize (lg_sl ([.ref (bd 0), .int (x)]) ++ List.replicate (2 - (lg_sl ([.ref (bd 0), .int (x)])).length) Slot.unset).toArray = ls at hl ⊢
  have hl : lv_has ls 2 [(0, .ref (bd 0)), (1, .int (x))] := hl
  have hP : va_P D tl_cl (tl_V cJ cI cZ bd E nf tf hn hs rt dn wm cr cd pf pl O ol rw rl wh th) s.heap := hP
  have hI0 := hI
  obtain ⟨⟨hnf, hL, hh, hz, hsz, hpl, hpf, hp7, hol⟩, hsz0, htf⟩ := hI
  have hpub : tl_pub L sz ≤ 64 := Nat.le_trans (tl_pub_le hsz) hnf
  have hb0 := tl_num_le L 0
  have hb1 := tl_num_le L 1
  refine lv_iload_n hx hb d_M_entry_0 rfl (lv_at hl 1 rfl) ?_
  refine lv_if_lt (tgt := 21) hx hb d_M_entry_1 (by decide) (fun h1 => ?_) (fun h1 => ?_)
  · -- 1 t
    refine lv_lconst (v := 0) hx hb d_M_entry_21 (by decide) ?_
    exact W.lret hx hb hr (fun t9 ht9 _ => ⟨(0), rfl, (by unfold tl_entA; first | (rw [if_pos h1]; done) | (rw [if_neg h1, if_pos h9]; done) | (rw [if_neg h1, if_neg h9, nI_clamp (by omega)])), ht9⟩) (fun q h => by cases h) d_M_entry_22
  · -- 1 f
    refine lv_iload_n hx hb d_M_entry_4 rfl (lv_at hl 1 rfl) ?_
    refine lv_aload_n hx hb d_M_entry_5 rfl (lv_at hl 0 rfl) ?_
    refine va_get (ci := 2) (v := .int (nI (nf))) (C := R_M) (T := F_M) (N := 18) hx hb hw iw_M hown hE.1 hP 0 rfl rfl 0 (by decide) (hw _ tl_m200) (fun _ h9 => h9) rfl d_M_entry_6 ?_
    refine lv_icmp_ge (tgt := 21) hx hb d_M_entry_9 (by decide) (fun h9 => ?_) (fun h9 => ?_)
    · -- 9 t
      refine lv_lconst (v := 0) hx hb d_M_entry_21 (by decide) ?_
      exact W.lret hx hb hr (fun t9 ht9 _ => ⟨(0), rfl, (by unfold tl_entA; first | (rw [if_pos h1]; done) | (rw [if_neg h1, if_pos h9]; done) | (rw [if_neg h1, if_neg h9, nI_clamp (by omega)])), ht9⟩) (fun q h => by cases h) d_M_entry_22
    · -- 9 f
      obtain ⟨j, hj, rfl⟩ := tl_ix (by omega) h1 h9
      refine lv_aload_n hx hb d_M_entry_12 rfl (lv_at hl 0 rfl) ?_
      refine va_get (ci := 2) (v := .ref (bd 1)) (C := R_M) (T := F_M) (N := 18) hx hb hw iw_M hown hE.1 hP 0 rfl rfl 1 (by decide) (hw _ tl_m201) (fun _ h9 => h9) rfl d_M_entry_13 ?_
      refine lv_iload_n hx hb d_M_entry_16 rfl (lv_at hl 1 rfl) ?_
      refine tl_lald (a := j) hx hb hE.1 hP 1 0 rfl rfl (by omega) (by decide) d_M_entry_17 ?_
      refine lv_goto (tgt := 22) hx hb d_M_entry_18 (by decide) ?_
      exact W.lret hx hb hr (fun t9 ht9 _ => ⟨(E j), rfl, (by unfold tl_entA; first | (rw [if_pos h1]; done) | (rw [if_neg h1, if_pos h9]; done) | (rw [if_neg h1, if_neg h9, nI_clamp (by omega)])), ht9⟩) (fun q h => by cases h) d_M_entry_22

set_option maxHeartbeats 4000000 in
set_option maxRecDepth 100000 in
theorem c_M_find (l : Launch) (D : va_G) (cJ cI cG cZ : ClassId) (bd : Nat → Nat) (E : Nat → Int64) (nf : Nat) (tf : Nat → Int64) (hn hs : Nat → Int32) (rt : Nat → Int64) (dn : Bool) (wm cr : Int32) (cd : Bool) (pf : Nat → Int64) (pl : Nat) (O : Nat → Int64) (ol : Nat) (rw : Nat → Int64) (rl : Nat) (wh : Nat → Int64) (th : Nat → Int32) (L : Nat) (sz : Nat → Nat) (Lp : List Int64) (T : Nat → Nat → Int64) (x : Int64) (hI : tl_G nf hn hs L sz pf pl Lp ol T tf) : Met l y_M_find (k_M_find :: tl_ws) { frames := 2, cells := 0, slots := 0, locals := 48 } (tl_Pc D cJ cI cG cZ [.ref (bd 0), .long (x)] (fun H => va_P D tl_cl (tl_V cJ cI cZ bd E nf tf hn hs rt dn wm cr cd pf pl O ol rw rl wh th) H)) (vp_Si (fun r => r = tl_findA E dn (tl_pub L sz) x)) 0 0 (fun _ => False) := by
  refine Met.ofW (cc := b_M_find) (maxL := 7) (ret := (some .int)) (by decide) rfl ?_
  intro p e s m args below meth c s₁ B hml hv
  obtain ⟨rfl, hE, hP⟩ := hv
  have hx := B.exec
  have hb := B.bytes
  have hr := B.returns
  have hw : ∀ w ∈ tl_ws, w.before ([.ref (bd 0), .long (x)] : List Value).toArray s = true := fun w h => atoms_spec (ws := k_M_find :: tl_ws) B.pre w (List.mem_cons_of_mem _ h)
  have hown : s.vm.findClass R_M = some m.cls := findClass_of_methodNamed B.named
  have hlocks := B.notSynchronized
  have hl := lv_entry ([.ref (bd 0), .long (x)]) (n := 7) (Nat.le_of_ble_eq_true rfl)
  rw [lg_entry_eq]
  generalize (lg_sl ([.ref (bd 0), .long (x)]) ++ List.replicate (7 - (lg_sl ([.ref (bd 0), .long (x)])).length) Slot.unset).toArray = ls at hl ⊢
  have hl : lv_has ls 7 [(0, .ref (bd 0)), (1, .long (x))] := hl
  have hP : va_P D tl_cl (tl_V cJ cI cZ bd E nf tf hn hs rt dn wm cr cd pf pl O ol rw rl wh th) s.heap := hP
  have hI0 := hI
  obtain ⟨⟨hnf, hL, hh, hz, hsz, hpl, hpf, hp7, hol⟩, hsz0, htf⟩ := hI
  have hpub : tl_pub L sz ≤ 64 := Nat.le_trans (tl_pub_le hsz) hnf
  have hb0 := tl_num_le L 0
  have hb1 := tl_num_le L 1
  refine lv_aload_n hx hb d_M_find_0 rfl (lv_at hl 0 rfl) ?_
  refine va_get (ci := 2) (v := .int (tl_bi (dn))) (C := R_M) (T := F_M) (N := 18) hx hb hw iw_M hown hE.1 hP 0 rfl rfl 6 (by decide) (hw _ tl_m206) (fun _ h9 => h9) rfl d_M_find_1 ?_
  refine tl_beq (tgt := 10) hx hb d_M_find_4 (by decide) (fun h4 => ?_) (fun h4 => ?_)
  · -- 4 t
    refine lv_lload_n hx hb d_M_find_10 rfl (lv_at hl 1 rfl) ?_
    refine tl_goL (v := (tl_leaf (x))) (va_runS (As := [.long (x)]) (rest := []) ⟨hx, hb, hml, hown, hw⟩ (c_M_leaf l (x)) (⟨tl_cB hw tl_m244 tl_m3 tl_m242 dd_M_leaf rfl rfl ⟨Nat.le_of_ble_eq_true rfl, Nat.le_of_ble_eq_true rfl⟩, hw _ tl_m243⟩) (tl_pre0) rfl rfl hl.1 rfl (lv_room (Nat.le_of_ble_eq_true rfl)) d_M_find_11 ⟨Nat.zero_le _, Nat.zero_le _⟩) ?_
    refine lv_lstore_n (lv' := [(3, .long (tl_leaf (x))), (0, .ref (bd 0)), (1, .long (x))]) hx hb d_M_find_14 rfl hl (by decide) rfl (fun ls hl => ?_)
    refine lv_iconst (v := (-1)) hx hb d_M_find_15 (by decide) ?_
    refine lv_istore (lv' := [(5, .int (-1)), (3, .long (tl_leaf (x))), (0, .ref (bd 0)), (1, .long (x))]) hx hb d_M_find_16 hl (by decide) rfl (fun ls hl => ?_)
    refine lv_aload_n hx hb d_M_find_18 rfl (lv_at hl 2 rfl) ?_
    refine tl_goI (v := (nI (tl_pub L sz))) (va_runV (As := []) (rest := []) ⟨hx, hb, hml, hown, hw⟩ (c_M_published l D cJ cI cG cZ bd E nf tf hn hs rt dn wm cr cd pf pl O ol rw rl wh th L sz Lp T  hI0) (⟨tl_cB hw tl_m232 tl_m3 tl_m230 dd_M_published rfl rfl ⟨Nat.le_of_ble_eq_true rfl, Nat.le_of_ble_eq_true rfl⟩, hw _ tl_m231, hw _ tl_m370⟩) (tl_preV hE hP (va_recv (q0 := 0) (ci := 2) (q := (R_M, F_M, 18)) hE.1 hP rfl rfl)) rfl rfl hl.1 rfl (lv_room (Nat.le_of_ble_eq_true rfl)) d_M_find_19 ⟨Nat.zero_le _, Nat.zero_le _⟩) ?_
    refine lv_iconst (v := (nI (1))) hx hb d_M_find_22 (by decide) ?_
    refine lv_isub hx hb d_M_find_23 ?_
    refine lv_topi (nm_r (e' := (nI (tl_pub L sz) - nI 1)) (rfl) ?_)
    refine lv_istore (lv' := [(6, .int (nI (tl_pub L sz) - nI 1)), (5, .int (-1)), (3, .long (tl_leaf (x))), (0, .ref (bd 0)), (1, .long (x))]) hx hb d_M_find_24 hl (by decide) rfl (fun ls hl => ?_)
    refine tl_loopR (fun n26 ls => ∃ (k : Nat) (fd : Int32), lv_has ls 7 [(6, .int (nI k - nI 1)), (5, .int (fd)), (3, .long (tl_leaf (x))), (0, .ref (bd 0))] ∧ (k ≤ tl_pub L sz) ∧ (n26 = k) ∧ (fd = tl_seek E (tl_leaf x) (tl_pub L sz - k) k)) (fun n26 ls hI ih26 => ?_) (tl_pub L sz) _ ⟨tl_pub L sz, -1, lv_sub hl [0, 1, 2, 3] rfl, by omega, rfl, (by rw [Nat.sub_self]; rfl)⟩
    obtain ⟨k, fd, hl, hk, hm, hfd⟩ := hI
    refine lv_iload hx hb d_M_find_26 (lv_at hl 0 rfl) ?_
    refine lv_if_lt (tgt := 61) hx hb d_M_find_28 (by decide) (fun h28 => ?_) (fun h28 => ?_)
    · -- 28 t
      have hk0 : k = 0 := by
        cases k with
        | zero => rfl
        | succ k1 => rw [tl_pm1] at h28; exact absurd h28 (nI_pos (by omega))
      refine lv_iload hx hb d_M_find_61 (lv_at hl 1 rfl) ?_
      exact W.iret hx hb hr (fun t9 ht9 _ => ⟨(fd), rfl, (by unfold tl_findA; rw [h4, if_neg (by decide), hfd, hk0]; rfl), ht9⟩) (fun q h => by cases h) d_M_find_63
    · -- 28 f
      obtain ⟨k1, rfl⟩ : ∃ k1, k = k1 + 1 := by
        cases k with
        | zero => exact absurd (by decide) h28
        | succ k1 => exact ⟨k1, rfl⟩
      rw [tl_pm1] at hl
      refine lv_aload_n hx hb d_M_find_31 rfl (lv_at hl 3 rfl) ?_
      refine va_get (ci := 2) (v := .ref (bd 1)) (C := R_M) (T := F_M) (N := 18) hx hb hw iw_M hown hE.1 hP 0 rfl rfl 1 (by decide) (hw _ tl_m201) (fun _ h9 => h9) rfl d_M_find_32 ?_
      refine lv_iload hx hb d_M_find_35 (lv_at hl 0 rfl) ?_
      refine tl_lald (a := k1) hx hb hE.1 hP 1 0 rfl rfl (by omega) (by decide) d_M_find_37 ?_
      refine tl_goL (v := (tl_leaf (E k1))) (va_runS (As := [.long (E k1)]) (rest := []) ⟨hx, hb, hml, hown, hw⟩ (c_M_leaf l (E k1)) (⟨tl_cB hw tl_m244 tl_m3 tl_m242 dd_M_leaf rfl rfl ⟨Nat.le_of_ble_eq_true rfl, Nat.le_of_ble_eq_true rfl⟩, hw _ tl_m243⟩) (tl_pre0) rfl rfl hl.1 rfl (lv_room (Nat.le_of_ble_eq_true rfl)) d_M_find_38 ⟨Nat.zero_le _, Nat.zero_le _⟩) ?_
      refine lv_lload_n hx hb d_M_find_41 rfl (lv_at hl 2 rfl) ?_
      refine tl_lne (tgt := 51) hx hb d_M_find_42 d_M_find_43 (by decide) (fun h43 => ?_) (fun h43 => ?_)
      · -- 43 t
        refine lv_iload hx hb d_M_find_51 (lv_at hl 1 rfl) ?_
        refine lv_istore (lv' := [(5, .int (fd)), (6, .int (nI (k1))), (3, .long (tl_leaf (x))), (0, .ref (bd 0))]) hx hb d_M_find_53 hl (by decide) rfl (fun ls hl => ?_)
        refine lv_iinc (k := 1) (v := ((nI (k1)) - nI 1)) (lv' := [(6, .int ((nI (k1)) - nI 1)), (5, .int (fd)), (3, .long (tl_leaf (x))), (0, .ref (bd 0))]) hx hb d_M_find_55 hl rfl (tl_im1 _) (by decide) rfl (fun ls hl => ?_)
        refine lv_goto (tgt := 26) hx hb d_M_find_58 (by decide) ?_
        exact ih26 k1 _ (by omega) ⟨k1, (fd), lv_sub hl [0, 1, 2, 3] rfl, by omega, rfl, (by rw [show tl_pub L sz - k1 = (tl_pub L sz - (k1 + 1)) + 1 by omega]; first | rw [tl_seek_is h43] | rw [tl_seek_go h43, ← hfd])⟩
      · -- 43 f
        refine lv_iload hx hb d_M_find_46 (lv_at hl 0 rfl) ?_
        refine lv_goto (tgt := 53) hx hb d_M_find_48 (by decide) ?_
        refine lv_istore (lv' := [(5, .int (nI (k1))), (6, .int (nI (k1))), (3, .long (tl_leaf (x))), (0, .ref (bd 0))]) hx hb d_M_find_53 hl (by decide) rfl (fun ls hl => ?_)
        refine lv_iinc (k := 1) (v := ((nI (k1)) - nI 1)) (lv' := [(6, .int ((nI (k1)) - nI 1)), (5, .int (nI (k1))), (3, .long (tl_leaf (x))), (0, .ref (bd 0))]) hx hb d_M_find_55 hl rfl (tl_im1 _) (by decide) rfl (fun ls hl => ?_)
        refine lv_goto (tgt := 26) hx hb d_M_find_58 (by decide) ?_
        exact ih26 k1 _ (by omega) ⟨k1, (nI (k1)), lv_sub hl [0, 1, 2, 3] rfl, by omega, rfl, (by rw [show tl_pub L sz - k1 = (tl_pub L sz - (k1 + 1)) + 1 by omega]; first | rw [tl_seek_is h43] | rw [tl_seek_go h43, ← hfd])⟩
  · -- 4 f
    refine lv_bipush (v := (-2)) hx hb d_M_find_7 (by decide) ?_
    exact W.iret hx hb hr (fun t9 ht9 _ => ⟨(-2), rfl, (by unfold tl_findA; rw [h4]; rfl), ht9⟩) (fun q h => by cases h) d_M_find_9

set_option maxHeartbeats 4000000 in
set_option maxRecDepth 100000 in
theorem c_M_proof (l : Launch) (D : va_G) (cJ cI cG cZ : ClassId) (bd : Nat → Nat) (E : Nat → Int64) (nf : Nat) (tf : Nat → Int64) (hn hs : Nat → Int32) (rt : Nat → Int64) (dn : Bool) (wm cr : Int32) (cd : Bool) (pf : Nat → Int64) (pl : Nat) (O : Nat → Int64) (ol : Nat) (rw : Nat → Int64) (rl : Nat) (wh : Nat → Int64) (th : Nat → Int32) (L : Nat) (sz : Nat → Nat) (Lp : List Int64) (T : Nat → Nat → Int64) (x : Int32) (hI : tl_G nf hn hs L sz pf pl Lp ol T tf) : Met l y_M_proof (k_M_proof :: tl_ws) { frames := 0, cells := 0, slots := 0, locals := 0 } (tl_Pc D cJ cI cG cZ [.ref (bd 0), .int (x)] (fun H => va_P D tl_cl (tl_V cJ cI cZ bd E nf tf hn hs rt dn wm cr cd pf pl O ol rw rl wh th) H)) (vp_Sl (fun r => r = tl_prfA Lp x)) 0 0 (fun _ => False) := by
  refine Met.ofW (cc := b_M_proof) (maxL := 2) (ret := (some .long)) (by decide) rfl ?_
  intro p e s m args below meth c s₁ B hml hv
  obtain ⟨rfl, hE, hP⟩ := hv
  have hx := B.exec
  have hb := B.bytes
  have hr := B.returns
  have hw : ∀ w ∈ tl_ws, w.before ([.ref (bd 0), .int (x)] : List Value).toArray s = true := fun w h => atoms_spec (ws := k_M_proof :: tl_ws) B.pre w (List.mem_cons_of_mem _ h)
  have hown : s.vm.findClass R_M = some m.cls := findClass_of_methodNamed B.named
  have hlocks := B.notSynchronized
  have hl := lv_entry ([.ref (bd 0), .int (x)]) (n := 2) (Nat.le_of_ble_eq_true rfl)
  rw [lg_entry_eq]
  generalize (lg_sl ([.ref (bd 0), .int (x)]) ++ List.replicate (2 - (lg_sl ([.ref (bd 0), .int (x)])).length) Slot.unset).toArray = ls at hl ⊢
  have hl : lv_has ls 2 [(0, .ref (bd 0)), (1, .int (x))] := hl
  have hP : va_P D tl_cl (tl_V cJ cI cZ bd E nf tf hn hs rt dn wm cr cd pf pl O ol rw rl wh th) s.heap := hP
  have hI0 := hI
  obtain ⟨⟨hnf, hL, hh, hz, hsz, hpl, hpf, hp7, hol⟩, hsz0, htf⟩ := hI
  have hpub : tl_pub L sz ≤ 64 := Nat.le_trans (tl_pub_le hsz) hnf
  have hb0 := tl_num_le L 0
  have hb1 := tl_num_le L 1
  refine lv_iload_n hx hb d_M_proof_0 rfl (lv_at hl 1 rfl) ?_
  refine lv_if_lt (tgt := 21) hx hb d_M_proof_1 (by decide) (fun h1 => ?_) (fun h1 => ?_)
  · -- 1 t
    refine lv_lconst (v := 0) hx hb d_M_proof_21 (by decide) ?_
    exact W.lret hx hb hr (fun t9 ht9 _ => ⟨(0), rfl, (by unfold tl_prfA; rw [← hpl]; first | (rw [if_pos h1]; done) | (rw [if_neg h1, if_pos h9]; done) | (rw [if_neg h1, if_neg h9, nI_clamp (by omega)])), ht9⟩) (fun q h => by cases h) d_M_proof_22
  · -- 1 f
    refine lv_iload_n hx hb d_M_proof_4 rfl (lv_at hl 1 rfl) ?_
    refine lv_aload_n hx hb d_M_proof_5 rfl (lv_at hl 0 rfl) ?_
    refine va_get (ci := 2) (v := .int (nI (pl))) (C := R_M) (T := F_M) (N := 18) hx hb hw iw_M hown hE.1 hP 0 rfl rfl 10 (by decide) (hw _ tl_m210) (fun _ h9 => h9) rfl d_M_proof_6 ?_
    refine lv_icmp_ge (tgt := 21) hx hb d_M_proof_9 (by decide) (fun h9 => ?_) (fun h9 => ?_)
    · -- 9 t
      refine lv_lconst (v := 0) hx hb d_M_proof_21 (by decide) ?_
      exact W.lret hx hb hr (fun t9 ht9 _ => ⟨(0), rfl, (by unfold tl_prfA; rw [← hpl]; first | (rw [if_pos h1]; done) | (rw [if_neg h1, if_pos h9]; done) | (rw [if_neg h1, if_neg h9, nI_clamp (by omega)])), ht9⟩) (fun q h => by cases h) d_M_proof_22
    · -- 9 f
      obtain ⟨j, hj, rfl⟩ := tl_ix (by omega) h1 h9
      refine lv_aload_n hx hb d_M_proof_12 rfl (lv_at hl 0 rfl) ?_
      refine va_get (ci := 2) (v := .ref (bd 6)) (C := R_M) (T := F_M) (N := 18) hx hb hw iw_M hown hE.1 hP 0 rfl rfl 11 (by decide) (hw _ tl_m211) (fun _ h9 => h9) rfl d_M_proof_13 ?_
      refine lv_iload_n hx hb d_M_proof_16 rfl (lv_at hl 1 rfl) ?_
      refine tl_lald (a := j) hx hb hE.1 hP 6 0 rfl rfl (by omega) (by decide) d_M_proof_17 ?_
      refine lv_topl (nm_r (e' := (Lp.getD j 0)) (hpf j hj) ?_)
      refine lv_goto (tgt := 22) hx hb d_M_proof_18 (by decide) ?_
      exact W.lret hx hb hr (fun t9 ht9 _ => ⟨(Lp.getD j 0), rfl, (by unfold tl_prfA; rw [← hpl]; first | (rw [if_pos h1]; done) | (rw [if_neg h1, if_pos h9]; done) | (rw [if_neg h1, if_neg h9, nI_clamp (by omega)])), ht9⟩) (fun q h => by cases h) d_M_proof_22

set_option maxHeartbeats 4000000 in
set_option maxRecDepth 100000 in
theorem c_M_halvings (l : Launch) (x : Nat) (hx30 : x < 2 ^ 30) : Met l y_M_halvings (k_M_halvings :: tl_ws) { frames := 0, cells := 0, slots := 0, locals := 0 } (va_Pc [.int (nI (x))] (fun _ => True)) (vp_Si (fun r => r = nI (tl_tz x))) 0 0 (fun _ => False) := by
  refine Met.ofW (cc := b_M_halvings) (maxL := 2) (ret := (some .int)) (by decide) rfl ?_
  intro p e s m args below meth c s₁ B hml hv
  obtain ⟨rfl, -⟩ := hv
  have hx := B.exec
  have hb := B.bytes
  have hr := B.returns
  have hw : ∀ w ∈ tl_ws, w.before ([.int (nI (x))] : List Value).toArray s = true := fun w h => atoms_spec (ws := k_M_halvings :: tl_ws) B.pre w (List.mem_cons_of_mem _ h)
  have hown : s.vm.findClass R_M = some m.cls := findClass_of_methodNamed B.named
  have hlocks := B.notSynchronized
  have hl := lv_entry ([.int (nI (x))]) (n := 2) (Nat.le_of_ble_eq_true rfl)
  rw [lg_entry_eq]
  generalize (lg_sl ([.int (nI (x))]) ++ List.replicate (2 - (lg_sl ([.int (nI (x))])).length) Slot.unset).toArray = ls at hl ⊢
  have hl : lv_has ls 2 [(0, .int (nI (x)))] := hl
  refine lv_iconst (v := (nI (0))) hx hb d_M_halvings_0 (by decide) ?_
  refine lv_istore_n (lv' := [(1, .int (nI (0))), (0, .int (nI (x)))]) hx hb d_M_halvings_1 rfl hl (by decide) rfl (fun ls hl => ?_)
  refine tl_loopR (fun n2 ls => ∃ (k : Nat), lv_has ls 2 [(1, .int (nI (k))), (0, .int (nI (x)))] ∧ (k ≤ 30) ∧ (n2 = 31 - k) ∧ (∀ j, j < k → x / 2 ^ j % 2 = 0) ∧ (x = 0 → k = 0)) (fun n2 ls hI ih2 => ?_) 31 _ ⟨0, lv_sub hl [0, 1] rfl, by omega, by omega, fun j hj => absurd hj (Nat.not_lt_zero _), fun _ => rfl⟩
  obtain ⟨k, hl, hk, hm, hz, h00⟩ := hI
  refine lv_iload_n hx hb d_M_halvings_2 rfl (lv_at hl 1 rfl) ?_
  refine lv_iload_n hx hb d_M_halvings_3 rfl (lv_at hl 0 rfl) ?_
  refine lv_ishr hx hb d_M_halvings_4 ?_
  refine lv_topi (nm_r (e' := (nI (x / 2 ^ k))) (tl_shr (by omega) (by omega)) ?_)
  refine tl_zeq (tgt := 23) (Nat.lt_of_le_of_lt (tl_div_le _ _) (by omega)) hx hb d_M_halvings_5 (by decide) (fun h5 => ?_) (fun h5 => ?_)
  · -- 5 t
    refine lv_iload_n hx hb d_M_halvings_23 rfl (lv_at hl 0 rfl) ?_
    exact W.iret hx hb hr (fun t9 ht9 _ => ⟨(nI (k)), rfl, (by first | (have q := tl_half0 hz h5; rw [h00 q, q]; rfl) | rw [← tl_tz_is (Nat.pos_of_ne_zero (fun q => h5 (by rw [q, Nat.zero_div]))) (by omega) (by omega) hz]), ht9⟩) (fun q h => by cases h) d_M_halvings_24
  · -- 5 f
    refine lv_iload_n hx hb d_M_halvings_8 rfl (lv_at hl 1 rfl) ?_
    refine lv_iload_n hx hb d_M_halvings_9 rfl (lv_at hl 0 rfl) ?_
    refine lv_ishr hx hb d_M_halvings_10 ?_
    refine lv_topi (nm_r (e' := (nI (x / 2 ^ k))) (tl_shr (by omega) (by omega)) ?_)
    refine lv_iconst (v := (nI (1))) hx hb d_M_halvings_11 (by decide) ?_
    refine lv_iand hx hb d_M_halvings_12 ?_
    refine lv_topi (nm_r (e' := (nI (x / 2 ^ k % 2))) (tl_and1 (Nat.lt_of_le_of_lt (tl_div_le _ _) (by omega))) ?_)
    refine tl_zne (tgt := 23) (by omega) hx hb d_M_halvings_13 (by decide) (fun h13 => ?_) (fun h13 => ?_)
    · -- 13 t
      refine lv_iload_n hx hb d_M_halvings_23 rfl (lv_at hl 0 rfl) ?_
      exact W.iret hx hb hr (fun t9 ht9 _ => ⟨(nI (k)), rfl, (by first | (have q := tl_half0 hz h5; rw [h00 q, q]; rfl) | rw [← tl_tz_is (Nat.pos_of_ne_zero (fun q => h5 (by rw [q, Nat.zero_div]))) (by omega) (by omega) hz]), ht9⟩) (fun q h => by cases h) d_M_halvings_24
    · -- 13 f
      refine lv_iload_n hx hb d_M_halvings_16 rfl (lv_at hl 0 rfl) ?_
      refine lv_iconst (v := (nI (1))) hx hb d_M_halvings_17 (by decide) ?_
      refine lv_iadd hx hb d_M_halvings_18 ?_
      refine lv_topi (nm_r (e' := (nI (k + 1))) (nI_add _ _) ?_)
      refine lv_istore_n (lv' := [(1, .int (nI (k + 1))), (0, .int (nI (x)))]) hx hb d_M_halvings_19 rfl hl (by decide) rfl (fun ls hl => ?_)
      refine lv_goto (tgt := 2) hx hb d_M_halvings_20 (by decide) ?_
      have hk30 := tl_z30 hx30 h5
      exact ih2 (n2 - 1) _ (by omega) ⟨k + 1, lv_sub hl [0, 1] rfl, (by have := tl_z30 hx30 h5; omega), (by have := tl_z30 hx30 h5; omega), tl_zs hz h13, (fun q => absurd (by rw [q, Nat.zero_div]) h5)⟩
