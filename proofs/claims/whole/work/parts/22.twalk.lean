set_option maxHeartbeats 4000000 in
set_option maxRecDepth 100000 in
theorem c_T_standsLeft (l : Launch) (f g : Nat) (hf : f < 2 ^ 30) (hg : g < 2 ^ 30) : Met l y_T_standsLeft (k_T_standsLeft :: tl_ws) { frames := 0, cells := 0, slots := 0, locals := 0 } (va_Pc [.int (nI (f)), .int (nI (g))] (fun _ => True)) (vp_Si (fun r => r = tl_bi (tl_left f g))) 0 0 (fun _ => False) := by
  refine Met.ofW (cc := b_T_standsLeft) (maxL := 2) (ret := (some .boolean)) (by decide) rfl ?_
  intro p e s m args below meth c s₁ B hml hv
  obtain ⟨rfl, -⟩ := hv
  have hx := B.exec
  have hb := B.bytes
  have hr := B.returns
  have hw : ∀ w ∈ tl_ws, w.before ([.int (nI (f)), .int (nI (g))] : List Value).toArray s = true := fun w h => atoms_spec (ws := k_T_standsLeft :: tl_ws) B.pre w (List.mem_cons_of_mem _ h)
  have hown : s.vm.findClass R_T = some m.cls := findClass_of_methodNamed B.named
  have hlocks := B.notSynchronized
  have hl := lv_entry ([.int (nI (f)), .int (nI (g))]) (n := 2) (Nat.le_of_ble_eq_true rfl)
  rw [lg_entry_eq]
  generalize (lg_sl ([.int (nI (f)), .int (nI (g))]) ++ List.replicate (2 - (lg_sl ([.int (nI (f)), .int (nI (g))])).length) Slot.unset).toArray = ls at hl ⊢
  have hl : lv_has ls 2 [(0, .int (nI (f))), (1, .int (nI (g)))] := hl
  refine lv_iload_n hx hb d_T_standsLeft_0 rfl (lv_at hl 0 rfl) ?_
  refine lv_iconst (v := (nI (1))) hx hb d_T_standsLeft_1 (by decide) ?_
  refine lv_iand hx hb d_T_standsLeft_2 ?_
  refine lv_topi (nm_r (e' := (nI (f % 2))) (tl_and1 (by omega)) ?_)
  refine lv_iconst (v := (nI (1))) hx hb d_T_standsLeft_3 (by decide) ?_
  refine tl_ceq (tgt := 12) (by omega) (by omega) hx hb d_T_standsLeft_4 (by decide) (fun h4 => ?_) (fun h4 => ?_)
  · -- 4 t
    refine lv_iconst (v := (nI (1))) hx hb d_T_standsLeft_12 (by decide) ?_
    refine lv_goto (tgt := 17) hx hb d_T_standsLeft_13 (by decide) ?_
    exact W.zret hx hb hr rfl (fun t9 ht9 _ => ⟨(nI (1)), rfl, (by first | exact tl_bi1 (tl_left_t (Or.inl h4)) | exact tl_bi1 (tl_left_t (Or.inr h9)) | exact tl_bi0 (tl_left_f h4 h9)), ht9⟩) (fun q h => by cases h) d_T_standsLeft_17
  · -- 4 f
    refine lv_iload_n hx hb d_T_standsLeft_7 rfl (lv_at hl 0 rfl) ?_
    refine lv_iload_n hx hb d_T_standsLeft_8 rfl (lv_at hl 1 rfl) ?_
    refine tl_cne (tgt := 16) (by omega) (by omega) hx hb d_T_standsLeft_9 (by decide) (fun h9 => ?_) (fun h9 => ?_)
    · -- 9 t
      refine lv_iconst (v := (nI (0))) hx hb d_T_standsLeft_16 (by decide) ?_
      exact W.zret hx hb hr rfl (fun t9 ht9 _ => ⟨(nI (0)), rfl, (by first | exact tl_bi1 (tl_left_t (Or.inl h4)) | exact tl_bi1 (tl_left_t (Or.inr h9)) | exact tl_bi0 (tl_left_f h4 h9)), ht9⟩) (fun q h => by cases h) d_T_standsLeft_17
    · -- 9 f
      refine lv_iconst (v := (nI (1))) hx hb d_T_standsLeft_12 (by decide) ?_
      refine lv_goto (tgt := 17) hx hb d_T_standsLeft_13 (by decide) ?_
      exact W.zret hx hb hr rfl (fun t9 ht9 _ => ⟨(nI (1)), rfl, (by first | exact tl_bi1 (tl_left_t (Or.inl h4)) | exact tl_bi1 (tl_left_t (Or.inr h9)) | exact tl_bi0 (tl_left_f h4 h9)), ht9⟩) (fun q h => by cases h) d_T_standsLeft_17

set_option maxHeartbeats 4000000 in
set_option maxRecDepth 100000 in
theorem c_T_zerosAtEnd (l : Launch) (x : Nat) (hx31 : x < 2 ^ 31) : Met l y_T_zerosAtEnd (k_T_zerosAtEnd :: tl_ws) { frames := 0, cells := 0, slots := 0, locals := 0 } (va_Pc [.int (nI (x))] (fun _ => True)) (vp_Si (fun r => r = nI (tl_tz x))) 0 0 (fun _ => False) := by
  refine Met.ofW (cc := b_T_zerosAtEnd) (maxL := 2) (ret := (some .int)) (by decide) rfl ?_
  intro p e s m args below meth c s₁ B hml hv
  obtain ⟨rfl, -⟩ := hv
  have hx := B.exec
  have hb := B.bytes
  have hr := B.returns
  have hw : ∀ w ∈ tl_ws, w.before ([.int (nI (x))] : List Value).toArray s = true := fun w h => atoms_spec (ws := k_T_zerosAtEnd :: tl_ws) B.pre w (List.mem_cons_of_mem _ h)
  have hown : s.vm.findClass R_T = some m.cls := findClass_of_methodNamed B.named
  have hlocks := B.notSynchronized
  have hl := lv_entry ([.int (nI (x))]) (n := 2) (Nat.le_of_ble_eq_true rfl)
  rw [lg_entry_eq]
  generalize (lg_sl ([.int (nI (x))]) ++ List.replicate (2 - (lg_sl ([.int (nI (x))])).length) Slot.unset).toArray = ls at hl ⊢
  have hl : lv_has ls 2 [(0, .int (nI (x)))] := hl
  refine lv_iconst (v := (nI (0))) hx hb d_T_zerosAtEnd_0 (by decide) ?_
  refine lv_istore_n (lv' := [(1, .int (nI (0))), (0, .int (nI (x)))]) hx hb d_T_zerosAtEnd_1 rfl hl (by decide) rfl (fun ls hl => ?_)
  refine lv_iload_n hx hb d_T_zerosAtEnd_2 rfl (lv_at hl 1 rfl) ?_
  refine tl_zeq (tgt := 26) (by omega) hx hb d_T_zerosAtEnd_3 (by decide) (fun h3 => ?_) (fun h3 => ?_)
  · -- 3 t
    refine lv_iload_n hx hb d_T_zerosAtEnd_26 rfl (lv_at hl 0 rfl) ?_
    exact W.iret hx hb hr (fun t9 ht9 _ => ⟨(nI (0)), rfl, (by first | (rw [h3]; rfl) | rw [← tl_tz_is (Nat.pos_of_ne_zero h3) hx31 (by omega) hz]), ht9⟩) (fun q h => by cases h) d_T_zerosAtEnd_27
  · -- 3 f
    refine tl_loopR (fun n6 ls => ∃ (z : Nat), lv_has ls 2 [(1, .int (nI (z))), (0, .int (nI (x)))] ∧ (z ≤ 31) ∧ (n6 = 31 - z) ∧ (∀ j, j < z → x / 2 ^ j % 2 = 0)) (fun n6 ls hI ih6 => ?_) 31 _ ⟨0, lv_sub hl [0, 1] rfl, by omega, by omega, fun j hj => absurd hj (Nat.not_lt_zero _)⟩
    obtain ⟨z, hl, hz31, hm, hz⟩ := hI
    refine lv_iload_n hx hb d_T_zerosAtEnd_6 rfl (lv_at hl 0 rfl) ?_
    refine lv_bipush (v := (nI (31))) hx hb d_T_zerosAtEnd_7 (by decide) ?_
    refine tl_cge (tgt := 26) (by omega) (by omega) hx hb d_T_zerosAtEnd_9 (by decide) (fun h9 => ?_) (fun h9 => ?_)
    · -- 9 t
      exact absurd (tl_z31 hx31 hz (by omega)) h3
    · -- 9 f
      refine lv_iload_n hx hb d_T_zerosAtEnd_12 rfl (lv_at hl 1 rfl) ?_
      refine lv_iload_n hx hb d_T_zerosAtEnd_13 rfl (lv_at hl 0 rfl) ?_
      refine lv_ishr hx hb d_T_zerosAtEnd_14 ?_
      refine lv_topi (nm_r (e' := (nI (x / 2 ^ z))) (tl_shr (by omega) (by omega)) ?_)
      refine lv_iconst (v := (nI (1))) hx hb d_T_zerosAtEnd_15 (by decide) ?_
      refine lv_iand hx hb d_T_zerosAtEnd_16 ?_
      refine lv_topi (nm_r (e' := (nI (x / 2 ^ z % 2))) (tl_and1 (Nat.lt_of_le_of_lt (tl_div_le _ _) hx31)) ?_)
      refine tl_zne (tgt := 26) (by omega) hx hb d_T_zerosAtEnd_17 (by decide) (fun h17 => ?_) (fun h17 => ?_)
      · -- 17 t
        refine lv_iload_n hx hb d_T_zerosAtEnd_26 rfl (lv_at hl 0 rfl) ?_
        exact W.iret hx hb hr (fun t9 ht9 _ => ⟨(nI (z)), rfl, (by first | (rw [h3]; rfl) | rw [← tl_tz_is (Nat.pos_of_ne_zero h3) hx31 (by omega) hz]), ht9⟩) (fun q h => by cases h) d_T_zerosAtEnd_27
      · -- 17 f
        refine lv_iinc (k := 0) (v := (nI (z + 1))) (lv' := [(1, .int (nI (z + 1))), (0, .int (nI (x)))]) hx hb d_T_zerosAtEnd_20 hl rfl (by rw [lit1]; exact (nI_succ _).symm) (by decide) rfl (fun ls hl => ?_)
        refine lv_goto (tgt := 6) hx hb d_T_zerosAtEnd_23 (by decide) ?_
        exact ih6 (n6 - 1) _ (by omega) ⟨z + 1, lv_sub hl [0, 1] rfl, by omega, by omega, tl_zs hz h17⟩

set_option maxHeartbeats 4000000 in
set_option maxRecDepth 100000 in
theorem c_T_levelsClimbed (l : Launch) (f : Nat) (b : Bool) (hf : f < 2 ^ 30) : Met l y_T_levelsClimbed (k_T_levelsClimbed :: tl_ws) { frames := 1, cells := 0, slots := 0, locals := 21 } (va_Pc [.int (nI (f)), .int (tl_bi (b))] (fun _ => True)) (vp_Si (fun r => r = nI (tl_lvB f b))) 0 0 (fun _ => False) := by
  refine Met.ofW (cc := b_T_levelsClimbed) (maxL := 2) (ret := (some .int)) (by decide) rfl ?_
  intro p e s m args below meth c s₁ B hml hv
  obtain ⟨rfl, -⟩ := hv
  have hx := B.exec
  have hb := B.bytes
  have hr := B.returns
  have hw : ∀ w ∈ tl_ws, w.before ([.int (nI (f)), .int (tl_bi (b))] : List Value).toArray s = true := fun w h => atoms_spec (ws := k_T_levelsClimbed :: tl_ws) B.pre w (List.mem_cons_of_mem _ h)
  have hown : s.vm.findClass R_T = some m.cls := findClass_of_methodNamed B.named
  have hlocks := B.notSynchronized
  have hl := lv_entry ([.int (nI (f)), .int (tl_bi (b))]) (n := 2) (Nat.le_of_ble_eq_true rfl)
  rw [lg_entry_eq]
  generalize (lg_sl ([.int (nI (f)), .int (tl_bi (b))]) ++ List.replicate (2 - (lg_sl ([.int (nI (f)), .int (tl_bi (b))])).length) Slot.unset).toArray = ls at hl ⊢
  have hl : lv_has ls 2 [(0, .int (nI (f))), (1, .int (tl_bi (b)))] := hl
  refine lv_iload_n hx hb d_T_levelsClimbed_0 rfl (lv_at hl 1 rfl) ?_
  refine tl_beq (tgt := 13) hx hb d_T_levelsClimbed_1 (by decide) (fun h1 => ?_) (fun h1 => ?_)
  · -- 1 t
    refine lv_iconst (v := (nI (1))) hx hb d_T_levelsClimbed_13 (by decide) ?_
    exact W.iret hx hb hr (fun t9 ht9 _ => ⟨(nI (1)), rfl, (by subst h1; rfl), ht9⟩) (fun q h => by cases h) d_T_levelsClimbed_14
  · -- 1 f
    refine lv_iload_n hx hb d_T_levelsClimbed_4 rfl (lv_at hl 0 rfl) ?_
    refine tl_goI (v := (nI (tl_tz f))) (va_runS (As := [.int (nI (f))]) (rest := []) ⟨hx, hb, hml, hown, hw⟩ (c_T_zerosAtEnd l f (by omega)) (⟨tl_cB hw tl_m183 tl_m1 tl_m181 dd_T_zerosAtEnd rfl rfl ⟨Nat.le_of_ble_eq_true rfl, Nat.le_of_ble_eq_true rfl⟩, hw _ tl_m182⟩) (tl_pre0) rfl rfl hl.1 rfl (lv_room (Nat.le_of_ble_eq_true rfl)) d_T_levelsClimbed_5 ⟨Nat.zero_le _, Nat.zero_le _⟩) ?_
    refine lv_iconst (v := (nI (1))) hx hb d_T_levelsClimbed_8 (by decide) ?_
    refine lv_iadd hx hb d_T_levelsClimbed_9 ?_
    refine lv_topi (nm_r (e' := (nI ((tl_tz f) + 1))) (nI_add _ _) ?_)
    refine lv_goto (tgt := 14) hx hb d_T_levelsClimbed_10 (by decide) ?_
    exact W.iret hx hb hr (fun t9 ht9 _ => ⟨(nI ((tl_tz f) + 1)), rfl, (by subst h1; rfl), ht9⟩) (fun q h => by cases h) d_T_levelsClimbed_14

set_option maxHeartbeats 4000000 in
set_option maxRecDepth 100000 in
theorem c_T_isPowerOfTwo (l : Launch) (x : Int32) : Met l y_T_isPowerOfTwo (k_T_isPowerOfTwo :: tl_ws) { frames := 0, cells := 0, slots := 0, locals := 0 } (va_Pc [.int (x)] (fun _ => True)) (vp_Si (fun r => r = tl_bi (tl_p2 x))) 0 0 (fun _ => False) := by
  refine Met.ofW (cc := b_T_isPowerOfTwo) (maxL := 1) (ret := (some .boolean)) (by decide) rfl ?_
  intro p e s m args below meth c s₁ B hml hv
  obtain ⟨rfl, -⟩ := hv
  have hx := B.exec
  have hb := B.bytes
  have hr := B.returns
  have hw : ∀ w ∈ tl_ws, w.before ([.int (x)] : List Value).toArray s = true := fun w h => atoms_spec (ws := k_T_isPowerOfTwo :: tl_ws) B.pre w (List.mem_cons_of_mem _ h)
  have hown : s.vm.findClass R_T = some m.cls := findClass_of_methodNamed B.named
  have hlocks := B.notSynchronized
  have hl := lv_entry ([.int (x)]) (n := 1) (Nat.le_of_ble_eq_true rfl)
  rw [lg_entry_eq]
  generalize (lg_sl ([.int (x)]) ++ List.replicate (1 - (lg_sl ([.int (x)])).length) Slot.unset).toArray = ls at hl ⊢
  have hl : lv_has ls 1 [(0, .int (x))] := hl
  refine lv_iload_n hx hb d_T_isPowerOfTwo_0 rfl (lv_at hl 0 rfl) ?_
  refine lv_iload_n hx hb d_T_isPowerOfTwo_1 rfl (lv_at hl 0 rfl) ?_
  refine lv_iconst (v := (nI (1))) hx hb d_T_isPowerOfTwo_2 (by decide) ?_
  refine lv_isub hx hb d_T_isPowerOfTwo_3 ?_
  refine lv_iand hx hb d_T_isPowerOfTwo_4 ?_
  refine lv_if_ne (tgt := 12) hx hb d_T_isPowerOfTwo_5 (by decide) (fun h5 => ?_) (fun h5 => ?_)
  · -- 5 t
    refine lv_iconst (v := (nI (0))) hx hb d_T_isPowerOfTwo_12 (by decide) ?_
    exact W.zret hx hb hr rfl (fun t9 ht9 _ => ⟨(nI (0)), rfl, (by first | exact tl_bi1 (beq_iff_eq.mpr h5) | exact tl_bi0 (beq_eq_false_iff_ne.mpr h5)), ht9⟩) (fun q h => by cases h) d_T_isPowerOfTwo_13
  · -- 5 f
    refine lv_iconst (v := (nI (1))) hx hb d_T_isPowerOfTwo_8 (by decide) ?_
    refine lv_goto (tgt := 13) hx hb d_T_isPowerOfTwo_9 (by decide) ?_
    exact W.zret hx hb hr rfl (fun t9 ht9 _ => ⟨(nI (1)), rfl, (by first | exact tl_bi1 (beq_iff_eq.mpr h5) | exact tl_bi0 (beq_eq_false_iff_ne.mpr h5)), ht9⟩) (fun q h => by cases h) d_T_isPowerOfTwo_13

set_option maxHeartbeats 4000000 in
set_option maxRecDepth 100000 in
theorem c_T_shows (l : Launch) (D : va_G) (cJ cI cG cZ : ClassId) (ad : Nat → Nat) (E : Nat → Int64) (nf : Nat) (T : Nat → Nat → Int64) (hn hs : Nat → Int32) (rt : Nat → Int64) (dn : Bool) (wm cr : Int32) (pf : Nat → Int64) (pl : Nat) (O : Nat → Int64) (ol : Nat) (r8 : Nat → Int64) (L : Nat) (sz : Nat → Nat) (Lp : List Int64) (x : Int64) (mI kI : Int32) (rI : Int64) (hI : tl_H nf hn hs L sz pf pl Lp ol) : Met l y_T_shows (k_T_shows :: tl_ws) { frames := 2, cells := 0, slots := 0, locals := 50 } (tl_Pc D cJ cI cG cZ [.ref (ad 0), .long (x), .int (mI), .int (kI), .long (rI)] (fun H => va_P D tl_cl (tl_W cJ cI cG ad E nf T hn hs rt dn wm cr pf pl O ol r8) H)) (vp_Si (fun r => r = tl_bi (tl_shA O ol x mI kI rI))) 0 0 (fun _ => False) := by
  refine Met.ofW (cc := b_T_shows) (maxL := 16) (ret := (some .boolean)) (by decide) rfl ?_
  intro p e s m args below meth c s₁ B hml hv
  obtain ⟨rfl, hE, hP⟩ := hv
  have hx := B.exec
  have hb := B.bytes
  have hr := B.returns
  have hw : ∀ w ∈ tl_ws, w.before ([.ref (ad 0), .long (x), .int (mI), .int (kI), .long (rI)] : List Value).toArray s = true := fun w h => atoms_spec (ws := k_T_shows :: tl_ws) B.pre w (List.mem_cons_of_mem _ h)
  have hown : s.vm.findClass R_T = some m.cls := findClass_of_methodNamed B.named
  have hlocks := B.notSynchronized
  have hl := lv_entry ([.ref (ad 0), .long (x), .int (mI), .int (kI), .long (rI)]) (n := 16) (Nat.le_of_ble_eq_true rfl)
  rw [lg_entry_eq]
  generalize (lg_sl ([.ref (ad 0), .long (x), .int (mI), .int (kI), .long (rI)]) ++ List.replicate (16 - (lg_sl ([.ref (ad 0), .long (x), .int (mI), .int (kI), .long (rI)])).length) Slot.unset).toArray = ls at hl ⊢
  have hl : lv_has ls 16 [(0, .ref (ad 0)), (1, .long (x)), (3, .int (mI)), (4, .int (kI)), (5, .long (rI))] := hl
  have hP : va_P D tl_cl (tl_W cJ cI cG ad E nf T hn hs rt dn wm cr pf pl O ol r8) s.heap := hP
  obtain ⟨hnf, hL, hh, hz, hsz, hpl, hpf, hp7, hol⟩ := hI
  have hpub : tl_pub L sz ≤ 64 := Nat.le_trans (tl_pub_le hsz) hnf
  refine lv_iload hx hb d_T_shows_0 (lv_at hl 3 rfl) ?_
  refine lv_iconst (v := (nI (1))) hx hb d_T_shows_2 (by decide) ?_
  refine lv_icmp_lt (tgt := 23) hx hb d_T_shows_3 (by decide) (fun h3 => ?_) (fun h3 => ?_)
  · -- 3 t
    refine lv_iconst (v := (nI (0))) hx hb d_T_shows_23 (by decide) ?_
    exact W.zret hx hb hr rfl (fun t9 ht9 _ => ⟨(nI (0)), rfl, (tl_bi0 (by unfold tl_shA; first | (rw [if_pos h3]; done) | (rw [if_neg h3, if_pos h10]; done) | (rw [if_neg h3, if_neg h10, if_pos h14]; done) | rw [if_neg h3, if_neg h10, if_neg h14, if_neg h20])), ht9⟩) (fun q h => by cases h) d_T_shows_24
  · -- 3 f
    refine lv_iload hx hb d_T_shows_6 (lv_at hl 3 rfl) ?_
    refine lv_ldc (v := 1000000) hx hb hown (hw _ tl_m174) d_T_shows_8 ?_
    refine lv_topi (nm_r (e' := (nI (1000000))) (rfl) ?_)
    refine lv_icmp_gt (tgt := 23) hx hb d_T_shows_10 (by decide) (fun h10 => ?_) (fun h10 => ?_)
    · -- 10 t
      refine lv_iconst (v := (nI (0))) hx hb d_T_shows_23 (by decide) ?_
      exact W.zret hx hb hr rfl (fun t9 ht9 _ => ⟨(nI (0)), rfl, (tl_bi0 (by unfold tl_shA; first | (rw [if_pos h3]; done) | (rw [if_neg h3, if_pos h10]; done) | (rw [if_neg h3, if_neg h10, if_pos h14]; done) | rw [if_neg h3, if_neg h10, if_neg h14, if_neg h20])), ht9⟩) (fun q h => by cases h) d_T_shows_24
    · -- 10 f
      refine lv_iload_n hx hb d_T_shows_13 rfl (lv_at hl 2 rfl) ?_
      refine lv_if_lt (tgt := 23) hx hb d_T_shows_14 (by decide) (fun h14 => ?_) (fun h14 => ?_)
      · -- 14 t
        refine lv_iconst (v := (nI (0))) hx hb d_T_shows_23 (by decide) ?_
        exact W.zret hx hb hr rfl (fun t9 ht9 _ => ⟨(nI (0)), rfl, (tl_bi0 (by unfold tl_shA; first | (rw [if_pos h3]; done) | (rw [if_neg h3, if_pos h10]; done) | (rw [if_neg h3, if_neg h10, if_pos h14]; done) | rw [if_neg h3, if_neg h10, if_neg h14, if_neg h20])), ht9⟩) (fun q h => by cases h) d_T_shows_24
      · -- 14 f
        refine lv_iload_n hx hb d_T_shows_17 rfl (lv_at hl 2 rfl) ?_
        refine lv_iload hx hb d_T_shows_18 (lv_at hl 3 rfl) ?_
        refine lv_icmp_lt (tgt := 25) hx hb d_T_shows_20 (by decide) (fun h20 => ?_) (fun h20 => ?_)
        · -- 20 t
          obtain ⟨kk, hk1, hk2, rfl⟩ := tl_ge1 h3
          obtain ⟨mm, hm1, rfl⟩ := nI_of h14
          have g20 : mm < kk := (nI_ltI hm1 hk2).mp h20
          have g10 : kk ≤ 1000000 := Nat.le_of_not_lt (fun q => h10 ((nI_ltI (by decide) hk2).mpr q))
          have hsp : tl_shA O ol x (nI mm) (nI kk) rI = ((tl_show O ol 0 mm (kk - 1) (tl_leaf x)).1 && (tl_show O ol 0 mm (kk - 1) (tl_leaf x)).2 == rI) := by unfold tl_shA; rw [if_neg h3, if_neg h10, if_neg h14, if_pos h20, nI_clamp hm1, nI_clamp hk2]
          refine lv_iload_n hx hb d_T_shows_25 rfl (lv_at hl 2 rfl) ?_
          refine lv_istore (lv' := [(7, .int (nI (mm))), (0, .ref (ad 0)), (1, .long (x)), (3, .int (nI (mm))), (4, .int (nI (kk))), (5, .long (rI))]) hx hb d_T_shows_26 hl (by decide) rfl (fun ls hl => ?_)
          refine lv_iload hx hb d_T_shows_28 (lv_at hl 4 rfl) ?_
          refine lv_iconst (v := (nI (1))) hx hb d_T_shows_30 (by decide) ?_
          refine lv_isub hx hb d_T_shows_31 ?_
          refine lv_topi (nm_r (e' := (nI (kk - 1))) (pk_sub (by omega)) ?_)
          refine lv_istore (lv' := [(8, .int (nI (kk - 1))), (7, .int (nI (mm))), (0, .ref (ad 0)), (1, .long (x)), (3, .int (nI (mm))), (4, .int (nI (kk))), (5, .long (rI))]) hx hb d_T_shows_32 hl (by decide) rfl (fun ls hl => ?_)
          refine lv_lload_n hx hb d_T_shows_34 rfl (lv_at hl 3 rfl) ?_
          refine tl_goL (v := (tl_leaf (x))) (va_runSN (As := [.long (x)]) (rest := []) ⟨hx, hb, hml, hown, hw⟩ (c_H_ofLeaf l (x)) (⟨tl_cN hw tl_m64 tl_m4 (tl_n10 hE.2) dd_H_ofLeaf rfl rfl ⟨Nat.le_of_ble_eq_true rfl, Nat.le_of_ble_eq_true rfl⟩, hw _ tl_m63, trivial⟩) (tl_pre0) rfl rfl hl.1 rfl (lv_room (Nat.le_of_ble_eq_true rfl)) d_T_shows_35 ⟨Nat.zero_le _, Nat.zero_le _⟩) ?_
          refine lv_lstore (lv' := [(9, .long (tl_leaf (x))), (8, .int (nI (kk - 1))), (7, .int (nI (mm))), (0, .ref (ad 0)), (1, .long (x)), (3, .int (nI (mm))), (4, .int (nI (kk))), (5, .long (rI))]) hx hb d_T_shows_38 hl (by decide) rfl (fun ls hl => ?_)
          refine lv_iconst (v := (nI (0))) hx hb d_T_shows_40 (by decide) ?_
          refine lv_istore (lv' := [(11, .int (nI (0))), (9, .long (tl_leaf (x))), (8, .int (nI (kk - 1))), (7, .int (nI (mm))), (0, .ref (ad 0)), (1, .long (x)), (3, .int (nI (mm))), (4, .int (nI (kk))), (5, .long (rI))]) hx hb d_T_shows_41 hl (by decide) rfl (fun ls hl => ?_)
          refine tl_loopR (fun n43 ls => ∃ (i : Nat) (f : Nat) (g : Nat) (rr : Int64), lv_has ls 16 [(11, .int (nI (i))), (7, .int (nI (f))), (8, .int (nI (g))), (9, .long (rr)), (5, .long (rI)), (0, .ref (ad 0))] ∧ (i ≤ ol) ∧ (n43 = ol - i) ∧ (f ≤ 1000000) ∧ (g ≤ 1000000) ∧ (tl_show O (ol - i) i f g rr = tl_show O ol 0 mm (kk - 1) (tl_leaf x))) (fun n43 ls hI ih43 => ?_) ol _ ⟨0, mm, kk - 1, tl_leaf x, lv_sub hl [0, 3, 2, 1, 8, 4] rfl, by omega, by omega, by omega, by omega, rfl⟩
          obtain ⟨i, f, g, rr, hl, hi, hm, hf, hg, hq⟩ := hI
          refine lv_iload hx hb d_T_shows_43 (lv_at hl 0 rfl) ?_
          refine lv_aload_n hx hb d_T_shows_45 rfl (lv_at hl 5 rfl) ?_
          refine va_get (ci := 0) (v := .int (nI (ol))) (C := R_T) (T := F_T) (N := 5) hx hb hw iw_T hown hE.1 hP 0 rfl rfl 4 (by decide) (hw _ tl_m36) (fun _ h9 => h9) rfl d_T_shows_46 ?_
          refine tl_cge (tgt := 130) (by omega) (by omega) hx hb d_T_shows_49 (by decide) (fun h49 => ?_) (fun h49 => ?_)
          · -- 49 t
            refine lv_iload hx hb d_T_shows_130 (lv_at hl 2 rfl) ?_
            refine tl_zne (tgt := 147) (by omega) hx hb d_T_shows_132 (by decide) (fun h132 => ?_) (fun h132 => ?_)
            · -- 132 t
              refine lv_iconst (v := (nI (0))) hx hb d_T_shows_147 (by decide) ?_
              exact W.zret hx hb hr rfl (fun t9 ht9 _ => ⟨(nI (0)), rfl, (by first | exact tl_bi1 (by rw [hsp, ← hq, show ol - i = 0 by omega, tl_show_0, h132, h140]; simp) | exact tl_bi0 (by rw [hsp, ← hq, show ol - i = 0 by omega, tl_show_0, h132]; simp [h140]) | exact tl_bi0 (by rw [hsp, ← hq, show ol - i = 0 by omega, tl_show_0]; simp [h132])), ht9⟩) (fun q h => by cases h) d_T_shows_148
            · -- 132 f
              refine lv_lload hx hb d_T_shows_135 (lv_at hl 3 rfl) ?_
              refine lv_lload hx hb d_T_shows_137 (lv_at hl 4 rfl) ?_
              refine tl_lne (tgt := 147) hx hb d_T_shows_139 d_T_shows_140 (by decide) (fun h140 => ?_) (fun h140 => ?_)
              · -- 140 t
                refine lv_iconst (v := (nI (0))) hx hb d_T_shows_147 (by decide) ?_
                exact W.zret hx hb hr rfl (fun t9 ht9 _ => ⟨(nI (0)), rfl, (by first | exact tl_bi1 (by rw [hsp, ← hq, show ol - i = 0 by omega, tl_show_0, h132, h140]; simp) | exact tl_bi0 (by rw [hsp, ← hq, show ol - i = 0 by omega, tl_show_0, h132]; simp [h140]) | exact tl_bi0 (by rw [hsp, ← hq, show ol - i = 0 by omega, tl_show_0]; simp [h132])), ht9⟩) (fun q h => by cases h) d_T_shows_148
              · -- 140 f
                refine lv_iconst (v := (nI (1))) hx hb d_T_shows_143 (by decide) ?_
                refine lv_goto (tgt := 148) hx hb d_T_shows_144 (by decide) ?_
                exact W.zret hx hb hr rfl (fun t9 ht9 _ => ⟨(nI (1)), rfl, (by first | exact tl_bi1 (by rw [hsp, ← hq, show ol - i = 0 by omega, tl_show_0, h132, h140]; simp) | exact tl_bi0 (by rw [hsp, ← hq, show ol - i = 0 by omega, tl_show_0, h132]; simp [h140]) | exact tl_bi0 (by rw [hsp, ← hq, show ol - i = 0 by omega, tl_show_0]; simp [h132])), ht9⟩) (fun q h => by cases h) d_T_shows_148
          · -- 49 f
            refine lv_iload hx hb d_T_shows_52 (lv_at hl 2 rfl) ?_
            refine tl_zne (tgt := 59) (by omega) hx hb d_T_shows_54 (by decide) (fun h54 => ?_) (fun h54 => ?_)
            · -- 54 t
              refine lv_aload_n hx hb d_T_shows_59 rfl (lv_at hl 5 rfl) ?_
              refine va_get (ci := 0) (v := .ref (ad 3)) (C := R_T) (T := F_T) (N := 5) hx hb hw iw_T hown hE.1 hP 0 rfl rfl 3 (by decide) (hw _ tl_m35) (fun _ h9 => h9) rfl d_T_shows_60 ?_
              refine lv_iload hx hb d_T_shows_63 (lv_at hl 0 rfl) ?_
              refine tl_lald (a := i) hx hb hE.1 hP 3 0 rfl rfl (by omega) (by decide) d_T_shows_65 ?_
              refine lv_lstore (lv' := [(12, .long (O i)), (11, .int (nI (i))), (7, .int (nI (f))), (8, .int (nI (g))), (9, .long (rr)), (5, .long (rI)), (0, .ref (ad 0))]) hx hb d_T_shows_66 hl (by decide) rfl (fun ls hl => ?_)
              refine lv_iload hx hb d_T_shows_68 (lv_at hl 2 rfl) ?_
              refine lv_iload hx hb d_T_shows_70 (lv_at hl 3 rfl) ?_
              refine tl_goI (v := (tl_bi (tl_left f g))) (va_runS (As := [.int (nI (f)), .int (nI (g))]) (rest := []) ⟨hx, hb, hml, hown, hw⟩ (c_T_standsLeft l f g (by omega) (by omega)) (⟨tl_cB hw tl_m177 tl_m1 tl_m175 dd_T_standsLeft rfl rfl ⟨Nat.le_of_ble_eq_true rfl, Nat.le_of_ble_eq_true rfl⟩, hw _ tl_m176⟩) (tl_pre0) rfl rfl hl.1 rfl (lv_room (Nat.le_of_ble_eq_true rfl)) d_T_shows_72 ⟨Nat.zero_le _, Nat.zero_le _⟩) ?_
              refine lv_istore (lv' := [(14, .int (tl_bi (tl_left f g))), (12, .long (O i)), (11, .int (nI (i))), (7, .int (nI (f))), (8, .int (nI (g))), (9, .long (rr)), (5, .long (rI)), (0, .ref (ad 0))]) hx hb d_T_shows_75 hl (by decide) rfl (fun ls hl => ?_)
              refine lv_iload hx hb d_T_shows_77 (lv_at hl 0 rfl) ?_
              refine tl_beq (tgt := 92) hx hb d_T_shows_79 (by decide) (fun h79 => ?_) (fun h79 => ?_)
              · -- 79 t
                refine lv_lload hx hb d_T_shows_92 (lv_at hl 5 rfl) ?_
                refine lv_lload hx hb d_T_shows_94 (lv_at hl 1 rfl) ?_
                refine tl_goL (v := (tl_node (rr) (O i))) (va_runSN (As := [.long (rr), .long (O i)]) (rest := []) ⟨hx, hb, hml, hown, hw⟩ (c_H_ofNode l (rr) (O i)) (⟨tl_cN hw tl_m83 tl_m4 (tl_n12 hE.2) dd_H_ofNode rfl rfl ⟨Nat.le_of_ble_eq_true rfl, Nat.le_of_ble_eq_true rfl⟩, hw _ tl_m82, trivial⟩) (tl_pre0) rfl rfl hl.1 rfl (lv_room (Nat.le_of_ble_eq_true rfl)) d_T_shows_96 ⟨Nat.zero_le _, Nat.zero_le _⟩) ?_
                refine lv_lstore (lv' := [(9, .long (tl_node (rr) (O i))), (14, .int (tl_bi (tl_left f g))), (12, .long (O i)), (11, .int (nI (i))), (7, .int (nI (f))), (8, .int (nI (g))), (5, .long (rI)), (0, .ref (ad 0))]) hx hb d_T_shows_99 hl (by decide) rfl (fun ls hl => ?_)
                refine lv_iload hx hb d_T_shows_101 (lv_at hl 4 rfl) ?_
                refine lv_iload hx hb d_T_shows_103 (lv_at hl 1 rfl) ?_
                refine tl_goI (v := (nI (tl_lvB f (tl_left f g)))) (va_runS (As := [.int (nI (f)), .int (tl_bi (tl_left f g))]) (rest := []) ⟨hx, hb, hml, hown, hw⟩ (c_T_levelsClimbed l f (tl_left f g) (by omega)) (⟨tl_cB hw tl_m180 tl_m1 tl_m178 dd_T_levelsClimbed rfl rfl ⟨Nat.le_of_ble_eq_true rfl, Nat.le_of_ble_eq_true rfl⟩, hw _ tl_m179⟩) (tl_pre0) rfl rfl hl.1 rfl (lv_room (Nat.le_of_ble_eq_true rfl)) d_T_shows_105 ⟨Nat.zero_le _, Nat.zero_le _⟩) ?_
                have hlv := tl_lv_lt (f := f) (g := g) (by omega)
                refine lv_topi (nm_r (e' := (nI (tl_lv f g))) (rfl) ?_)
                refine lv_istore (lv' := [(15, .int (nI (tl_lv f g))), (9, .long (tl_node (rr) (O i))), (14, .int (tl_bi (tl_left f g))), (12, .long (O i)), (11, .int (nI (i))), (7, .int (nI (f))), (8, .int (nI (g))), (5, .long (rI)), (0, .ref (ad 0))]) hx hb d_T_shows_108 hl (by decide) rfl (fun ls hl => ?_)
                refine lv_iload hx hb d_T_shows_110 (lv_at hl 5 rfl) ?_
                refine lv_iload hx hb d_T_shows_112 (lv_at hl 0 rfl) ?_
                refine lv_ishr hx hb d_T_shows_114 ?_
                refine lv_topi (nm_r (e' := (nI (f / 2 ^ (tl_lv f g)))) (tl_shr (by omega) (by omega)) ?_)
                refine lv_istore (lv' := [(7, .int (nI (f / 2 ^ (tl_lv f g)))), (15, .int (nI (tl_lv f g))), (9, .long (tl_node (rr) (O i))), (14, .int (tl_bi (tl_left f g))), (12, .long (O i)), (11, .int (nI (i))), (8, .int (nI (g))), (5, .long (rI)), (0, .ref (ad 0))]) hx hb d_T_shows_115 hl (by decide) rfl (fun ls hl => ?_)
                refine lv_iload hx hb d_T_shows_117 (lv_at hl 6 rfl) ?_
                refine lv_iload hx hb d_T_shows_119 (lv_at hl 1 rfl) ?_
                refine lv_ishr hx hb d_T_shows_121 ?_
                refine lv_topi (nm_r (e' := (nI (g / 2 ^ (tl_lv f g)))) (tl_shr (by omega) (by omega)) ?_)
                refine lv_istore (lv' := [(8, .int (nI (g / 2 ^ (tl_lv f g)))), (7, .int (nI (f / 2 ^ (tl_lv f g)))), (15, .int (nI (tl_lv f g))), (9, .long (tl_node (rr) (O i))), (14, .int (tl_bi (tl_left f g))), (12, .long (O i)), (11, .int (nI (i))), (5, .long (rI)), (0, .ref (ad 0))]) hx hb d_T_shows_122 hl (by decide) rfl (fun ls hl => ?_)
                refine lv_iinc (k := 6) (v := (nI (i + 1))) (lv' := [(11, .int (nI (i + 1))), (8, .int (nI (g / 2 ^ (tl_lv f g)))), (7, .int (nI (f / 2 ^ (tl_lv f g)))), (15, .int (nI (tl_lv f g))), (9, .long (tl_node (rr) (O i))), (14, .int (tl_bi (tl_left f g))), (12, .long (O i)), (5, .long (rI)), (0, .ref (ad 0))]) hx hb d_T_shows_124 hl rfl (by rw [lit1]; exact (nI_succ _).symm) (by decide) rfl (fun ls hl => ?_)
                refine lv_goto (tgt := 43) hx hb d_T_shows_127 (by decide) ?_
                exact ih43 (n43 - 1) _ (by omega) ⟨i + 1, f / 2 ^ tl_lv f g, g / 2 ^ tl_lv f g, (tl_node (rr) (O i)), lv_sub hl [0, 2, 1, 4, 7, 8] rfl, by omega, by omega, Nat.le_trans (tl_div_le _ _) hf, Nat.le_trans (tl_div_le _ _) hg, (by rw [← hq, show ol - i = (ol - (i + 1)) + 1 by omega]; first | rw [tl_show_t h54 h79] | rw [tl_show_f h54 h79])⟩
              · -- 79 f
                refine lv_lload hx hb d_T_shows_82 (lv_at hl 1 rfl) ?_
                refine lv_lload hx hb d_T_shows_84 (lv_at hl 5 rfl) ?_
                refine tl_goL (v := (tl_node (O i) (rr))) (va_runSN (As := [.long (O i), .long (rr)]) (rest := []) ⟨hx, hb, hml, hown, hw⟩ (c_H_ofNode l (O i) (rr)) (⟨tl_cN hw tl_m83 tl_m4 (tl_n12 hE.2) dd_H_ofNode rfl rfl ⟨Nat.le_of_ble_eq_true rfl, Nat.le_of_ble_eq_true rfl⟩, hw _ tl_m82, trivial⟩) (tl_pre0) rfl rfl hl.1 rfl (lv_room (Nat.le_of_ble_eq_true rfl)) d_T_shows_86 ⟨Nat.zero_le _, Nat.zero_le _⟩) ?_
                refine lv_goto (tgt := 99) hx hb d_T_shows_89 (by decide) ?_
                refine lv_lstore (lv' := [(9, .long (tl_node (O i) (rr))), (14, .int (tl_bi (tl_left f g))), (12, .long (O i)), (11, .int (nI (i))), (7, .int (nI (f))), (8, .int (nI (g))), (5, .long (rI)), (0, .ref (ad 0))]) hx hb d_T_shows_99 hl (by decide) rfl (fun ls hl => ?_)
                refine lv_iload hx hb d_T_shows_101 (lv_at hl 4 rfl) ?_
                refine lv_iload hx hb d_T_shows_103 (lv_at hl 1 rfl) ?_
                refine tl_goI (v := (nI (tl_lvB f (tl_left f g)))) (va_runS (As := [.int (nI (f)), .int (tl_bi (tl_left f g))]) (rest := []) ⟨hx, hb, hml, hown, hw⟩ (c_T_levelsClimbed l f (tl_left f g) (by omega)) (⟨tl_cB hw tl_m180 tl_m1 tl_m178 dd_T_levelsClimbed rfl rfl ⟨Nat.le_of_ble_eq_true rfl, Nat.le_of_ble_eq_true rfl⟩, hw _ tl_m179⟩) (tl_pre0) rfl rfl hl.1 rfl (lv_room (Nat.le_of_ble_eq_true rfl)) d_T_shows_105 ⟨Nat.zero_le _, Nat.zero_le _⟩) ?_
                have hlv := tl_lv_lt (f := f) (g := g) (by omega)
                refine lv_topi (nm_r (e' := (nI (tl_lv f g))) (rfl) ?_)
                refine lv_istore (lv' := [(15, .int (nI (tl_lv f g))), (9, .long (tl_node (O i) (rr))), (14, .int (tl_bi (tl_left f g))), (12, .long (O i)), (11, .int (nI (i))), (7, .int (nI (f))), (8, .int (nI (g))), (5, .long (rI)), (0, .ref (ad 0))]) hx hb d_T_shows_108 hl (by decide) rfl (fun ls hl => ?_)
                refine lv_iload hx hb d_T_shows_110 (lv_at hl 5 rfl) ?_
                refine lv_iload hx hb d_T_shows_112 (lv_at hl 0 rfl) ?_
                refine lv_ishr hx hb d_T_shows_114 ?_
                refine lv_topi (nm_r (e' := (nI (f / 2 ^ (tl_lv f g)))) (tl_shr (by omega) (by omega)) ?_)
                refine lv_istore (lv' := [(7, .int (nI (f / 2 ^ (tl_lv f g)))), (15, .int (nI (tl_lv f g))), (9, .long (tl_node (O i) (rr))), (14, .int (tl_bi (tl_left f g))), (12, .long (O i)), (11, .int (nI (i))), (8, .int (nI (g))), (5, .long (rI)), (0, .ref (ad 0))]) hx hb d_T_shows_115 hl (by decide) rfl (fun ls hl => ?_)
                refine lv_iload hx hb d_T_shows_117 (lv_at hl 6 rfl) ?_
                refine lv_iload hx hb d_T_shows_119 (lv_at hl 1 rfl) ?_
                refine lv_ishr hx hb d_T_shows_121 ?_
                refine lv_topi (nm_r (e' := (nI (g / 2 ^ (tl_lv f g)))) (tl_shr (by omega) (by omega)) ?_)
                refine lv_istore (lv' := [(8, .int (nI (g / 2 ^ (tl_lv f g)))), (7, .int (nI (f / 2 ^ (tl_lv f g)))), (15, .int (nI (tl_lv f g))), (9, .long (tl_node (O i) (rr))), (14, .int (tl_bi (tl_left f g))), (12, .long (O i)), (11, .int (nI (i))), (5, .long (rI)), (0, .ref (ad 0))]) hx hb d_T_shows_122 hl (by decide) rfl (fun ls hl => ?_)
                refine lv_iinc (k := 6) (v := (nI (i + 1))) (lv' := [(11, .int (nI (i + 1))), (8, .int (nI (g / 2 ^ (tl_lv f g)))), (7, .int (nI (f / 2 ^ (tl_lv f g)))), (15, .int (nI (tl_lv f g))), (9, .long (tl_node (O i) (rr))), (14, .int (tl_bi (tl_left f g))), (12, .long (O i)), (5, .long (rI)), (0, .ref (ad 0))]) hx hb d_T_shows_124 hl rfl (by rw [lit1]; exact (nI_succ _).symm) (by decide) rfl (fun ls hl => ?_)
                refine lv_goto (tgt := 43) hx hb d_T_shows_127 (by decide) ?_
                exact ih43 (n43 - 1) _ (by omega) ⟨i + 1, f / 2 ^ tl_lv f g, g / 2 ^ tl_lv f g, (tl_node (O i) (rr)), lv_sub hl [0, 2, 1, 4, 7, 8] rfl, by omega, by omega, Nat.le_trans (tl_div_le _ _) hf, Nat.le_trans (tl_div_le _ _) hg, (by rw [← hq, show ol - i = (ol - (i + 1)) + 1 by omega]; first | rw [tl_show_t h54 h79] | rw [tl_show_f h54 h79])⟩
            · -- 54 f
              refine lv_iconst (v := (nI (0))) hx hb d_T_shows_57 (by decide) ?_
              exact W.zret hx hb hr rfl (fun t9 ht9 _ => ⟨(nI (0)), rfl, (tl_bi0 (by rw [hsp, ← hq, show ol - i = (ol - (i + 1)) + 1 by omega, tl_show_no h54]; rfl)), ht9⟩) (fun q h => by cases h) d_T_shows_58
        · -- 20 f
          refine lv_iconst (v := (nI (0))) hx hb d_T_shows_23 (by decide) ?_
          exact W.zret hx hb hr rfl (fun t9 ht9 _ => ⟨(nI (0)), rfl, (tl_bi0 (by unfold tl_shA; first | (rw [if_pos h3]; done) | (rw [if_neg h3, if_pos h10]; done) | (rw [if_neg h3, if_neg h10, if_pos h14]; done) | rw [if_neg h3, if_neg h10, if_neg h14, if_neg h20])), ht9⟩) (fun q h => by cases h) d_T_shows_24

set_option maxHeartbeats 4000000 in
set_option maxRecDepth 100000 in
theorem c_T_leadsBehind_t (l : Launch) (D : va_G) (cJ cI cG cZ : ClassId) (ad : Nat → Nat) (E : Nat → Int64) (nf : Nat) (T : Nat → Nat → Int64) (hn hs : Nat → Int32) (rt : Nat → Int64) (dn : Bool) (wm cr : Int32) (pf : Nat → Int64) (pl : Nat) (O : Nat → Int64) (ol : Nat) (r8 : Nat → Int64) (L : Nat) (sz : Nat → Nat) (Lp : List Int64) (mm kk : Nat) (x y : Int64) (hI : tl_H nf hn hs L sz pf pl Lp ol) (hm1 : 1 ≤ mm) (hmk : mm < kk) (hk : kk ≤ 1000000) : Met l y_T_leadsBehind (k_T_leadsBehind :: tl_ws) { frames := 2, cells := 0, slots := 0, locals := 50 } (tl_Pc D cJ cI cG cZ [.ref (ad 0), .int (nI (mm)), .int (nI (kk)), .long (x), .long (y), .int (tl_bi (true))] (fun H => va_P D tl_cl (tl_W cJ cI cG ad E nf T hn hs rt dn wm cr pf pl O ol r8) H)) (vp_Si (fun r => r = tl_bi (tl_ldT O ol mm kk x y))) 0 0 (fun _ => False) := by
  refine Met.ofW (cc := b_T_leadsBehind) (maxL := 20) (ret := (some .boolean)) (by decide) rfl ?_
  intro p e s m args below meth c s₁ B hml hv
  obtain ⟨rfl, hE, hP⟩ := hv
  have hx := B.exec
  have hb := B.bytes
  have hr := B.returns
  have hw : ∀ w ∈ tl_ws, w.before ([.ref (ad 0), .int (nI (mm)), .int (nI (kk)), .long (x), .long (y), .int (tl_bi (true))] : List Value).toArray s = true := fun w h => atoms_spec (ws := k_T_leadsBehind :: tl_ws) B.pre w (List.mem_cons_of_mem _ h)
  have hown : s.vm.findClass R_T = some m.cls := findClass_of_methodNamed B.named
  have hlocks := B.notSynchronized
  have hl := lv_entry ([.ref (ad 0), .int (nI (mm)), .int (nI (kk)), .long (x), .long (y), .int (tl_bi (true))]) (n := 20) (Nat.le_of_ble_eq_true rfl)
  rw [lg_entry_eq]
  generalize (lg_sl ([.ref (ad 0), .int (nI (mm)), .int (nI (kk)), .long (x), .long (y), .int (tl_bi (true))]) ++ List.replicate (20 - (lg_sl ([.ref (ad 0), .int (nI (mm)), .int (nI (kk)), .long (x), .long (y), .int (tl_bi (true))])).length) Slot.unset).toArray = ls at hl ⊢
  have hl : lv_has ls 20 [(0, .ref (ad 0)), (1, .int (nI (mm))), (2, .int (nI (kk))), (3, .long (x)), (5, .long (y)), (7, .int (tl_bi (true)))] := hl
  have hP : va_P D tl_cl (tl_W cJ cI cG ad E nf T hn hs rt dn wm cr pf pl O ol r8) s.heap := hP
  obtain ⟨hnf, hL, hh, hz, hsz, hpl, hpf, hp7, hol⟩ := hI
  have hpub : tl_pub L sz ≤ 64 := Nat.le_trans (tl_pub_le hsz) hnf
  have htz := tl_tz_lt (x := mm) (by omega)
  refine lv_iload_n hx hb d_T_leadsBehind_0 rfl (lv_at hl 1 rfl) ?_
  refine tl_goI (v := (nI (tl_tz mm))) (va_runS (As := [.int (nI (mm))]) (rest := []) ⟨hx, hb, hml, hown, hw⟩ (c_T_zerosAtEnd l mm (by omega)) (⟨tl_cB hw tl_m183 tl_m1 tl_m181 dd_T_zerosAtEnd rfl rfl ⟨Nat.le_of_ble_eq_true rfl, Nat.le_of_ble_eq_true rfl⟩, hw _ tl_m182⟩) (tl_pre0) rfl rfl hl.1 rfl (lv_room (Nat.le_of_ble_eq_true rfl)) d_T_leadsBehind_1 ⟨Nat.zero_le _, Nat.zero_le _⟩) ?_
  refine lv_istore (lv' := [(8, .int (nI (tl_tz mm))), (0, .ref (ad 0)), (1, .int (nI (mm))), (2, .int (nI (kk))), (3, .long (x)), (5, .long (y)), (7, .int (tl_bi (true)))]) hx hb d_T_leadsBehind_4 hl (by decide) rfl (fun ls hl => ?_)
  refine lv_iload_n hx hb d_T_leadsBehind_6 rfl (lv_at hl 2 rfl) ?_
  refine lv_iconst (v := (nI (1))) hx hb d_T_leadsBehind_7 (by decide) ?_
  refine lv_isub hx hb d_T_leadsBehind_8 ?_
  refine lv_topi (nm_r (e' := (nI (mm - 1))) (pk_sub (by omega)) ?_)
  refine lv_iload hx hb d_T_leadsBehind_9 (lv_at hl 0 rfl) ?_
  refine lv_ishr hx hb d_T_leadsBehind_11 ?_
  refine lv_topi (nm_r (e' := (nI ((mm - 1) / 2 ^ (tl_tz mm)))) (tl_shr (by omega) (by omega)) ?_)
  refine lv_istore (lv' := [(9, .int (nI ((mm - 1) / 2 ^ (tl_tz mm)))), (8, .int (nI (tl_tz mm))), (0, .ref (ad 0)), (1, .int (nI (mm))), (2, .int (nI (kk))), (3, .long (x)), (5, .long (y)), (7, .int (tl_bi (true)))]) hx hb d_T_leadsBehind_12 hl (by decide) rfl (fun ls hl => ?_)
  refine lv_iload_n hx hb d_T_leadsBehind_14 rfl (lv_at hl 4 rfl) ?_
  refine lv_iconst (v := (nI (1))) hx hb d_T_leadsBehind_15 (by decide) ?_
  refine lv_isub hx hb d_T_leadsBehind_16 ?_
  refine lv_topi (nm_r (e' := (nI (kk - 1))) (pk_sub (by omega)) ?_)
  refine lv_iload hx hb d_T_leadsBehind_17 (lv_at hl 1 rfl) ?_
  refine lv_ishr hx hb d_T_leadsBehind_19 ?_
  refine lv_topi (nm_r (e' := (nI ((kk - 1) / 2 ^ (tl_tz mm)))) (tl_shr (by omega) (by omega)) ?_)
  refine lv_istore (lv' := [(10, .int (nI ((kk - 1) / 2 ^ (tl_tz mm)))), (9, .int (nI ((mm - 1) / 2 ^ (tl_tz mm)))), (8, .int (nI (tl_tz mm))), (0, .ref (ad 0)), (1, .int (nI (mm))), (2, .int (nI (kk))), (3, .long (x)), (5, .long (y)), (7, .int (tl_bi (true)))]) hx hb d_T_leadsBehind_20 hl (by decide) rfl (fun ls hl => ?_)
  refine lv_iload hx hb d_T_leadsBehind_22 (lv_at hl 8 rfl) ?_
  refine tl_beq (v := true) (tgt := 31) hx hb d_T_leadsBehind_24 (by decide) (fun h => absurd h (by decide)) (fun _ => ?_)
  refine lv_lload_n hx hb d_T_leadsBehind_27 rfl (lv_at hl 6 rfl) ?_
  refine lv_goto (tgt := 37) hx hb d_T_leadsBehind_28 (by decide) ?_
  refine lv_lstore (lv' := [(11, .long (x)), (10, .int (nI ((kk - 1) / 2 ^ (tl_tz mm)))), (9, .int (nI ((mm - 1) / 2 ^ (tl_tz mm)))), (8, .int (nI (tl_tz mm))), (0, .ref (ad 0)), (1, .int (nI (mm))), (2, .int (nI (kk))), (3, .long (x)), (5, .long (y)), (7, .int (tl_bi (true)))]) hx hb d_T_leadsBehind_37 hl (by decide) rfl (fun ls hl => ?_)
  refine lv_lload hx hb d_T_leadsBehind_39 (lv_at hl 0 rfl) ?_
  refine lv_lstore (lv' := [(13, .long (x)), (11, .long (x)), (10, .int (nI ((kk - 1) / 2 ^ (tl_tz mm)))), (9, .int (nI ((mm - 1) / 2 ^ (tl_tz mm)))), (8, .int (nI (tl_tz mm))), (0, .ref (ad 0)), (1, .int (nI (mm))), (2, .int (nI (kk))), (3, .long (x)), (5, .long (y)), (7, .int (tl_bi (true)))]) hx hb d_T_leadsBehind_41 hl (by decide) rfl (fun ls hl => ?_)
  refine lv_iload hx hb d_T_leadsBehind_43 (lv_at hl 10 rfl) ?_
  refine tl_beq (v := true) (tgt := 52) hx hb d_T_leadsBehind_45 (by decide) (fun h => absurd h (by decide)) (fun _ => ?_)
  refine lv_iconst (v := (nI (0))) hx hb d_T_leadsBehind_48 (by decide) ?_
  refine lv_goto (tgt := 53) hx hb d_T_leadsBehind_49 (by decide) ?_
  refine lv_istore (lv' := [(15, .int (nI (0))), (13, .long (x)), (11, .long (x)), (10, .int (nI ((kk - 1) / 2 ^ (tl_tz mm)))), (9, .int (nI ((mm - 1) / 2 ^ (tl_tz mm)))), (8, .int (nI (tl_tz mm))), (0, .ref (ad 0)), (1, .int (nI (mm))), (2, .int (nI (kk))), (3, .long (x)), (5, .long (y)), (7, .int (tl_bi (true)))]) hx hb d_T_leadsBehind_53 hl (by decide) rfl (fun ls hl => ?_)
  refine tl_loopR (fun n55 ls => ∃ (i : Nat) (f : Nat) (g : Nat) (va : Int64) (vb : Int64), lv_has ls 20 [(15, .int (nI (i))), (9, .int (nI (f))), (10, .int (nI (g))), (11, .long (va)), (13, .long (vb)), (3, .long (x)), (5, .long (y)), (0, .ref (ad 0))] ∧ (i ≤ ol) ∧ (n55 = ol - i) ∧ (f ≤ 1000000) ∧ (g ≤ 1000000) ∧ (tl_lead O (ol - i) i f g va vb = tl_lead O (ol) 0 ((mm - 1) / 2 ^ tl_tz mm) ((kk - 1) / 2 ^ tl_tz mm) (x) (x))) (fun n55 ls hI ih55 => ?_) ol _ ⟨0, (mm - 1) / 2 ^ tl_tz mm, (kk - 1) / 2 ^ tl_tz mm, x, x, lv_sub hl [0, 4, 3, 2, 1, 9, 10, 6] rfl, by omega, by omega, Nat.le_trans (tl_div_le _ _) (by omega), Nat.le_trans (tl_div_le _ _) (by omega), rfl⟩
  obtain ⟨i, f, g, va, vb, hl, hi, hm, hf, hg, hq⟩ := hI
  refine lv_iload hx hb d_T_leadsBehind_55 (lv_at hl 0 rfl) ?_
  refine lv_aload_n hx hb d_T_leadsBehind_57 rfl (lv_at hl 7 rfl) ?_
  refine va_get (ci := 0) (v := .int (nI (ol))) (C := R_T) (T := F_T) (N := 5) hx hb hw iw_T hown hE.1 hP 0 rfl rfl 4 (by decide) (hw _ tl_m36) (fun _ h9 => h9) rfl d_T_leadsBehind_58 ?_
  refine tl_cge (tgt := 156) (by omega) (by omega) hx hb d_T_leadsBehind_61 (by decide) (fun h61 => ?_) (fun h61 => ?_)
  · -- 61 t
    refine lv_iload hx hb d_T_leadsBehind_156 (lv_at hl 2 rfl) ?_
    refine tl_zne (tgt := 180) (by omega) hx hb d_T_leadsBehind_158 (by decide) (fun h158 => ?_) (fun h158 => ?_)
    · -- 158 t
      refine lv_iconst (v := (nI (0))) hx hb d_T_leadsBehind_180 (by decide) ?_
      exact W.zret hx hb hr rfl (fun t9 ht9 _ => ⟨(nI (0)), rfl, (by first | exact tl_bi1 (by unfold tl_ldT tl_ldB; rw [← hq, show ol - i = 0 by omega, tl_lead_0, h158, h165, h173]; simp) | exact tl_bi0 (by unfold tl_ldT tl_ldB; rw [← hq, show ol - i = 0 by omega, tl_lead_0, h158, h165]; simp [h173]) | exact tl_bi0 (by unfold tl_ldT tl_ldB; rw [← hq, show ol - i = 0 by omega, tl_lead_0, h158]; simp [h165]) | exact tl_bi0 (by unfold tl_ldT tl_ldB; rw [← hq, show ol - i = 0 by omega, tl_lead_0]; simp [h158])), ht9⟩) (fun q h => by cases h) d_T_leadsBehind_181
    · -- 158 f
      refine lv_lload hx hb d_T_leadsBehind_161 (lv_at hl 3 rfl) ?_
      refine lv_lload_n hx hb d_T_leadsBehind_163 rfl (lv_at hl 5 rfl) ?_
      refine tl_lne (tgt := 180) hx hb d_T_leadsBehind_164 d_T_leadsBehind_165 (by decide) (fun h165 => ?_) (fun h165 => ?_)
      · -- 165 t
        refine lv_iconst (v := (nI (0))) hx hb d_T_leadsBehind_180 (by decide) ?_
        exact W.zret hx hb hr rfl (fun t9 ht9 _ => ⟨(nI (0)), rfl, (by first | exact tl_bi1 (by unfold tl_ldT tl_ldB; rw [← hq, show ol - i = 0 by omega, tl_lead_0, h158, h165, h173]; simp) | exact tl_bi0 (by unfold tl_ldT tl_ldB; rw [← hq, show ol - i = 0 by omega, tl_lead_0, h158, h165]; simp [h173]) | exact tl_bi0 (by unfold tl_ldT tl_ldB; rw [← hq, show ol - i = 0 by omega, tl_lead_0, h158]; simp [h165]) | exact tl_bi0 (by unfold tl_ldT tl_ldB; rw [← hq, show ol - i = 0 by omega, tl_lead_0]; simp [h158])), ht9⟩) (fun q h => by cases h) d_T_leadsBehind_181
      · -- 165 f
        refine lv_lload hx hb d_T_leadsBehind_168 (lv_at hl 4 rfl) ?_
        refine lv_lload hx hb d_T_leadsBehind_170 (lv_at hl 6 rfl) ?_
        refine tl_lne (tgt := 180) hx hb d_T_leadsBehind_172 d_T_leadsBehind_173 (by decide) (fun h173 => ?_) (fun h173 => ?_)
        · -- 173 t
          refine lv_iconst (v := (nI (0))) hx hb d_T_leadsBehind_180 (by decide) ?_
          exact W.zret hx hb hr rfl (fun t9 ht9 _ => ⟨(nI (0)), rfl, (by first | exact tl_bi1 (by unfold tl_ldT tl_ldB; rw [← hq, show ol - i = 0 by omega, tl_lead_0, h158, h165, h173]; simp) | exact tl_bi0 (by unfold tl_ldT tl_ldB; rw [← hq, show ol - i = 0 by omega, tl_lead_0, h158, h165]; simp [h173]) | exact tl_bi0 (by unfold tl_ldT tl_ldB; rw [← hq, show ol - i = 0 by omega, tl_lead_0, h158]; simp [h165]) | exact tl_bi0 (by unfold tl_ldT tl_ldB; rw [← hq, show ol - i = 0 by omega, tl_lead_0]; simp [h158])), ht9⟩) (fun q h => by cases h) d_T_leadsBehind_181
        · -- 173 f
          refine lv_iconst (v := (nI (1))) hx hb d_T_leadsBehind_176 (by decide) ?_
          refine lv_goto (tgt := 181) hx hb d_T_leadsBehind_177 (by decide) ?_
          exact W.zret hx hb hr rfl (fun t9 ht9 _ => ⟨(nI (1)), rfl, (by first | exact tl_bi1 (by unfold tl_ldT tl_ldB; rw [← hq, show ol - i = 0 by omega, tl_lead_0, h158, h165, h173]; simp) | exact tl_bi0 (by unfold tl_ldT tl_ldB; rw [← hq, show ol - i = 0 by omega, tl_lead_0, h158, h165]; simp [h173]) | exact tl_bi0 (by unfold tl_ldT tl_ldB; rw [← hq, show ol - i = 0 by omega, tl_lead_0, h158]; simp [h165]) | exact tl_bi0 (by unfold tl_ldT tl_ldB; rw [← hq, show ol - i = 0 by omega, tl_lead_0]; simp [h158])), ht9⟩) (fun q h => by cases h) d_T_leadsBehind_181
  · -- 61 f
    refine lv_iload hx hb d_T_leadsBehind_64 (lv_at hl 2 rfl) ?_
    refine tl_zne (tgt := 71) (by omega) hx hb d_T_leadsBehind_66 (by decide) (fun h66 => ?_) (fun h66 => ?_)
    · -- 66 t
      refine lv_aload_n hx hb d_T_leadsBehind_71 rfl (lv_at hl 7 rfl) ?_
      refine va_get (ci := 0) (v := .ref (ad 3)) (C := R_T) (T := F_T) (N := 5) hx hb hw iw_T hown hE.1 hP 0 rfl rfl 3 (by decide) (hw _ tl_m35) (fun _ h9 => h9) rfl d_T_leadsBehind_72 ?_
      refine lv_iload hx hb d_T_leadsBehind_75 (lv_at hl 0 rfl) ?_
      refine tl_lald (a := i) hx hb hE.1 hP 3 0 rfl rfl (by omega) (by decide) d_T_leadsBehind_77 ?_
      refine lv_lstore (lv' := [(16, .long (O i)), (15, .int (nI (i))), (9, .int (nI (f))), (10, .int (nI (g))), (11, .long (va)), (13, .long (vb)), (3, .long (x)), (5, .long (y)), (0, .ref (ad 0))]) hx hb d_T_leadsBehind_78 hl (by decide) rfl (fun ls hl => ?_)
      refine lv_iload hx hb d_T_leadsBehind_80 (lv_at hl 2 rfl) ?_
      refine lv_iload hx hb d_T_leadsBehind_82 (lv_at hl 3 rfl) ?_
      refine tl_goI (v := (tl_bi (tl_left f g))) (va_runS (As := [.int (nI (f)), .int (nI (g))]) (rest := []) ⟨hx, hb, hml, hown, hw⟩ (c_T_standsLeft l f g (by omega) (by omega)) (⟨tl_cB hw tl_m177 tl_m1 tl_m175 dd_T_standsLeft rfl rfl ⟨Nat.le_of_ble_eq_true rfl, Nat.le_of_ble_eq_true rfl⟩, hw _ tl_m176⟩) (tl_pre0) rfl rfl hl.1 rfl (lv_room (Nat.le_of_ble_eq_true rfl)) d_T_leadsBehind_84 ⟨Nat.zero_le _, Nat.zero_le _⟩) ?_
      refine lv_istore (lv' := [(18, .int (tl_bi (tl_left f g))), (16, .long (O i)), (15, .int (nI (i))), (9, .int (nI (f))), (10, .int (nI (g))), (11, .long (va)), (13, .long (vb)), (3, .long (x)), (5, .long (y)), (0, .ref (ad 0))]) hx hb d_T_leadsBehind_87 hl (by decide) rfl (fun ls hl => ?_)
      refine lv_iload hx hb d_T_leadsBehind_89 (lv_at hl 0 rfl) ?_
      refine tl_beq (tgt := 103) hx hb d_T_leadsBehind_91 (by decide) (fun h91 => ?_) (fun h91 => ?_)
      · -- 91 t
        rw [h91] at hl
        refine lv_iload hx hb d_T_leadsBehind_103 (lv_at hl 0 rfl) ?_
        refine tl_beq (v := false) (tgt := 118) hx hb d_T_leadsBehind_105 (by decide) (fun _ => ?_) (fun h => absurd h (by decide))
        refine lv_lload hx hb d_T_leadsBehind_118 (lv_at hl 6 rfl) ?_
        refine lv_lload hx hb d_T_leadsBehind_120 (lv_at hl 1 rfl) ?_
        refine tl_goL (v := (tl_node (vb) (O i))) (va_runSN (As := [.long (vb), .long (O i)]) (rest := []) ⟨hx, hb, hml, hown, hw⟩ (c_H_ofNode l (vb) (O i)) (⟨tl_cN hw tl_m83 tl_m4 (tl_n12 hE.2) dd_H_ofNode rfl rfl ⟨Nat.le_of_ble_eq_true rfl, Nat.le_of_ble_eq_true rfl⟩, hw _ tl_m82, trivial⟩) (tl_pre0) rfl rfl hl.1 rfl (lv_room (Nat.le_of_ble_eq_true rfl)) d_T_leadsBehind_122 ⟨Nat.zero_le _, Nat.zero_le _⟩) ?_
        refine lv_lstore (lv' := [(13, .long (tl_node (vb) (O i))), (18, .int (tl_bi (false))), (16, .long (O i)), (15, .int (nI (i))), (9, .int (nI (f))), (10, .int (nI (g))), (11, .long (va)), (3, .long (x)), (5, .long (y)), (0, .ref (ad 0))]) hx hb d_T_leadsBehind_125 hl (by decide) rfl (fun ls hl => ?_)
        refine lv_iload hx hb d_T_leadsBehind_127 (lv_at hl 4 rfl) ?_
        refine lv_iload hx hb d_T_leadsBehind_129 (lv_at hl 1 rfl) ?_
        refine tl_goI (v := (nI (tl_lvB f false))) (va_runS (As := [.int (nI (f)), .int (tl_bi (false))]) (rest := []) ⟨hx, hb, hml, hown, hw⟩ (c_T_levelsClimbed l f false (by omega)) (⟨tl_cB hw tl_m180 tl_m1 tl_m178 dd_T_levelsClimbed rfl rfl ⟨Nat.le_of_ble_eq_true rfl, Nat.le_of_ble_eq_true rfl⟩, hw _ tl_m179⟩) (tl_pre0) rfl rfl hl.1 rfl (lv_room (Nat.le_of_ble_eq_true rfl)) d_T_leadsBehind_131 ⟨Nat.zero_le _, Nat.zero_le _⟩) ?_
        have hlv := tl_lv_lt (f := f) (g := g) (by omega)
        refine lv_topi (nm_r (e' := (nI (tl_lv f g))) (by first | (rw [tl_lv_t h91]; rfl) | (rw [tl_lv_f h91]; rfl)) ?_)
        refine lv_istore (lv' := [(19, .int (nI (tl_lv f g))), (13, .long (tl_node (vb) (O i))), (18, .int (tl_bi (false))), (16, .long (O i)), (15, .int (nI (i))), (9, .int (nI (f))), (10, .int (nI (g))), (11, .long (va)), (3, .long (x)), (5, .long (y)), (0, .ref (ad 0))]) hx hb d_T_leadsBehind_134 hl (by decide) rfl (fun ls hl => ?_)
        refine lv_iload hx hb d_T_leadsBehind_136 (lv_at hl 5 rfl) ?_
        refine lv_iload hx hb d_T_leadsBehind_138 (lv_at hl 0 rfl) ?_
        refine lv_ishr hx hb d_T_leadsBehind_140 ?_
        refine lv_topi (nm_r (e' := (nI (f / 2 ^ (tl_lv f g)))) (tl_shr (by omega) (by omega)) ?_)
        refine lv_istore (lv' := [(9, .int (nI (f / 2 ^ (tl_lv f g)))), (19, .int (nI (tl_lv f g))), (13, .long (tl_node (vb) (O i))), (18, .int (tl_bi (false))), (16, .long (O i)), (15, .int (nI (i))), (10, .int (nI (g))), (11, .long (va)), (3, .long (x)), (5, .long (y)), (0, .ref (ad 0))]) hx hb d_T_leadsBehind_141 hl (by decide) rfl (fun ls hl => ?_)
        refine lv_iload hx hb d_T_leadsBehind_143 (lv_at hl 6 rfl) ?_
        refine lv_iload hx hb d_T_leadsBehind_145 (lv_at hl 1 rfl) ?_
        refine lv_ishr hx hb d_T_leadsBehind_147 ?_
        refine lv_topi (nm_r (e' := (nI (g / 2 ^ (tl_lv f g)))) (tl_shr (by omega) (by omega)) ?_)
        refine lv_istore (lv' := [(10, .int (nI (g / 2 ^ (tl_lv f g)))), (9, .int (nI (f / 2 ^ (tl_lv f g)))), (19, .int (nI (tl_lv f g))), (13, .long (tl_node (vb) (O i))), (18, .int (tl_bi (false))), (16, .long (O i)), (15, .int (nI (i))), (11, .long (va)), (3, .long (x)), (5, .long (y)), (0, .ref (ad 0))]) hx hb d_T_leadsBehind_148 hl (by decide) rfl (fun ls hl => ?_)
        refine lv_iinc (k := 6) (v := (nI (i + 1))) (lv' := [(15, .int (nI (i + 1))), (10, .int (nI (g / 2 ^ (tl_lv f g)))), (9, .int (nI (f / 2 ^ (tl_lv f g)))), (19, .int (nI (tl_lv f g))), (13, .long (tl_node (vb) (O i))), (18, .int (tl_bi (false))), (16, .long (O i)), (11, .long (va)), (3, .long (x)), (5, .long (y)), (0, .ref (ad 0))]) hx hb d_T_leadsBehind_150 hl rfl (by rw [lit1]; exact (nI_succ _).symm) (by decide) rfl (fun ls hl => ?_)
        refine lv_goto (tgt := 55) hx hb d_T_leadsBehind_153 (by decide) ?_
        exact ih55 (n55 - 1) _ (by omega) ⟨i + 1, f / 2 ^ tl_lv f g, g / 2 ^ tl_lv f g, (va), (tl_node (vb) (O i)), lv_sub hl [0, 2, 1, 7, 4, 8, 9, 10] rfl, by omega, by omega, Nat.le_trans (tl_div_le _ _) hf, Nat.le_trans (tl_div_le _ _) hg, (by rw [← hq, show ol - i = (ol - (i + 1)) + 1 by omega]; first | rw [tl_lead_t h66 h91] | rw [tl_lead_f h66 h91])⟩
      · -- 91 f
        rw [h91] at hl
        refine lv_lload hx hb d_T_leadsBehind_94 (lv_at hl 1 rfl) ?_
        refine lv_lload hx hb d_T_leadsBehind_96 (lv_at hl 5 rfl) ?_
        refine tl_goL (v := (tl_node (O i) (va))) (va_runSN (As := [.long (O i), .long (va)]) (rest := []) ⟨hx, hb, hml, hown, hw⟩ (c_H_ofNode l (O i) (va)) (⟨tl_cN hw tl_m83 tl_m4 (tl_n12 hE.2) dd_H_ofNode rfl rfl ⟨Nat.le_of_ble_eq_true rfl, Nat.le_of_ble_eq_true rfl⟩, hw _ tl_m82, trivial⟩) (tl_pre0) rfl rfl hl.1 rfl (lv_room (Nat.le_of_ble_eq_true rfl)) d_T_leadsBehind_98 ⟨Nat.zero_le _, Nat.zero_le _⟩) ?_
        refine lv_lstore (lv' := [(11, .long (tl_node (O i) (va))), (18, .int (tl_bi (true))), (16, .long (O i)), (15, .int (nI (i))), (9, .int (nI (f))), (10, .int (nI (g))), (13, .long (vb)), (3, .long (x)), (5, .long (y)), (0, .ref (ad 0))]) hx hb d_T_leadsBehind_101 hl (by decide) rfl (fun ls hl => ?_)
        refine lv_iload hx hb d_T_leadsBehind_103 (lv_at hl 1 rfl) ?_
        refine tl_beq (v := true) (tgt := 118) hx hb d_T_leadsBehind_105 (by decide) (fun h => absurd h (by decide)) (fun _ => ?_)
        refine lv_lload hx hb d_T_leadsBehind_108 (lv_at hl 2 rfl) ?_
        refine lv_lload hx hb d_T_leadsBehind_110 (lv_at hl 6 rfl) ?_
        refine tl_goL (v := (tl_node (O i) (vb))) (va_runSN (As := [.long (O i), .long (vb)]) (rest := []) ⟨hx, hb, hml, hown, hw⟩ (c_H_ofNode l (O i) (vb)) (⟨tl_cN hw tl_m83 tl_m4 (tl_n12 hE.2) dd_H_ofNode rfl rfl ⟨Nat.le_of_ble_eq_true rfl, Nat.le_of_ble_eq_true rfl⟩, hw _ tl_m82, trivial⟩) (tl_pre0) rfl rfl hl.1 rfl (lv_room (Nat.le_of_ble_eq_true rfl)) d_T_leadsBehind_112 ⟨Nat.zero_le _, Nat.zero_le _⟩) ?_
        refine lv_goto (tgt := 125) hx hb d_T_leadsBehind_115 (by decide) ?_
        refine lv_lstore (lv' := [(13, .long (tl_node (O i) (vb))), (11, .long (tl_node (O i) (va))), (18, .int (tl_bi (true))), (16, .long (O i)), (15, .int (nI (i))), (9, .int (nI (f))), (10, .int (nI (g))), (3, .long (x)), (5, .long (y)), (0, .ref (ad 0))]) hx hb d_T_leadsBehind_125 hl (by decide) rfl (fun ls hl => ?_)
        refine lv_iload hx hb d_T_leadsBehind_127 (lv_at hl 5 rfl) ?_
        refine lv_iload hx hb d_T_leadsBehind_129 (lv_at hl 2 rfl) ?_
        refine tl_goI (v := (nI (tl_lvB f true))) (va_runS (As := [.int (nI (f)), .int (tl_bi (true))]) (rest := []) ⟨hx, hb, hml, hown, hw⟩ (c_T_levelsClimbed l f true (by omega)) (⟨tl_cB hw tl_m180 tl_m1 tl_m178 dd_T_levelsClimbed rfl rfl ⟨Nat.le_of_ble_eq_true rfl, Nat.le_of_ble_eq_true rfl⟩, hw _ tl_m179⟩) (tl_pre0) rfl rfl hl.1 rfl (lv_room (Nat.le_of_ble_eq_true rfl)) d_T_leadsBehind_131 ⟨Nat.zero_le _, Nat.zero_le _⟩) ?_
        have hlv := tl_lv_lt (f := f) (g := g) (by omega)
        refine lv_topi (nm_r (e' := (nI (tl_lv f g))) (by first | (rw [tl_lv_t h91]; rfl) | (rw [tl_lv_f h91]; rfl)) ?_)
        refine lv_istore (lv' := [(19, .int (nI (tl_lv f g))), (13, .long (tl_node (O i) (vb))), (11, .long (tl_node (O i) (va))), (18, .int (tl_bi (true))), (16, .long (O i)), (15, .int (nI (i))), (9, .int (nI (f))), (10, .int (nI (g))), (3, .long (x)), (5, .long (y)), (0, .ref (ad 0))]) hx hb d_T_leadsBehind_134 hl (by decide) rfl (fun ls hl => ?_)
        refine lv_iload hx hb d_T_leadsBehind_136 (lv_at hl 6 rfl) ?_
        refine lv_iload hx hb d_T_leadsBehind_138 (lv_at hl 0 rfl) ?_
        refine lv_ishr hx hb d_T_leadsBehind_140 ?_
        refine lv_topi (nm_r (e' := (nI (f / 2 ^ (tl_lv f g)))) (tl_shr (by omega) (by omega)) ?_)
        refine lv_istore (lv' := [(9, .int (nI (f / 2 ^ (tl_lv f g)))), (19, .int (nI (tl_lv f g))), (13, .long (tl_node (O i) (vb))), (11, .long (tl_node (O i) (va))), (18, .int (tl_bi (true))), (16, .long (O i)), (15, .int (nI (i))), (10, .int (nI (g))), (3, .long (x)), (5, .long (y)), (0, .ref (ad 0))]) hx hb d_T_leadsBehind_141 hl (by decide) rfl (fun ls hl => ?_)
        refine lv_iload hx hb d_T_leadsBehind_143 (lv_at hl 7 rfl) ?_
        refine lv_iload hx hb d_T_leadsBehind_145 (lv_at hl 1 rfl) ?_
        refine lv_ishr hx hb d_T_leadsBehind_147 ?_
        refine lv_topi (nm_r (e' := (nI (g / 2 ^ (tl_lv f g)))) (tl_shr (by omega) (by omega)) ?_)
        refine lv_istore (lv' := [(10, .int (nI (g / 2 ^ (tl_lv f g)))), (9, .int (nI (f / 2 ^ (tl_lv f g)))), (19, .int (nI (tl_lv f g))), (13, .long (tl_node (O i) (vb))), (11, .long (tl_node (O i) (va))), (18, .int (tl_bi (true))), (16, .long (O i)), (15, .int (nI (i))), (3, .long (x)), (5, .long (y)), (0, .ref (ad 0))]) hx hb d_T_leadsBehind_148 hl (by decide) rfl (fun ls hl => ?_)
        refine lv_iinc (k := 7) (v := (nI (i + 1))) (lv' := [(15, .int (nI (i + 1))), (10, .int (nI (g / 2 ^ (tl_lv f g)))), (9, .int (nI (f / 2 ^ (tl_lv f g)))), (19, .int (nI (tl_lv f g))), (13, .long (tl_node (O i) (vb))), (11, .long (tl_node (O i) (va))), (18, .int (tl_bi (true))), (16, .long (O i)), (3, .long (x)), (5, .long (y)), (0, .ref (ad 0))]) hx hb d_T_leadsBehind_150 hl rfl (by rw [lit1]; exact (nI_succ _).symm) (by decide) rfl (fun ls hl => ?_)
        refine lv_goto (tgt := 55) hx hb d_T_leadsBehind_153 (by decide) ?_
        exact ih55 (n55 - 1) _ (by omega) ⟨i + 1, f / 2 ^ tl_lv f g, g / 2 ^ tl_lv f g, (tl_node (O i) (va)), (tl_node (O i) (vb)), lv_sub hl [0, 2, 1, 5, 4, 8, 9, 10] rfl, by omega, by omega, Nat.le_trans (tl_div_le _ _) hf, Nat.le_trans (tl_div_le _ _) hg, (by rw [← hq, show ol - i = (ol - (i + 1)) + 1 by omega]; first | rw [tl_lead_t h66 h91] | rw [tl_lead_f h66 h91])⟩
    · -- 66 f
      refine lv_iconst (v := (nI (0))) hx hb d_T_leadsBehind_69 (by decide) ?_
      exact W.zret hx hb hr rfl (fun t9 ht9 _ => ⟨(nI (0)), rfl, (tl_bi0 (by unfold tl_ldT; rw [← hq, show ol - i = (ol - (i + 1)) + 1 by omega, tl_lead_no h66]; rfl)), ht9⟩) (fun q h => by cases h) d_T_leadsBehind_70

set_option maxHeartbeats 4000000 in
set_option maxRecDepth 100000 in
theorem c_T_leadsBehind_f (l : Launch) (D : va_G) (cJ cI cG cZ : ClassId) (ad : Nat → Nat) (E : Nat → Int64) (nf : Nat) (T : Nat → Nat → Int64) (hn hs : Nat → Int32) (rt : Nat → Int64) (dn : Bool) (wm cr : Int32) (pf : Nat → Int64) (pl : Nat) (O : Nat → Int64) (ol : Nat) (r8 : Nat → Int64) (L : Nat) (sz : Nat → Nat) (Lp : List Int64) (mm kk : Nat) (x y : Int64) (hI : tl_H nf hn hs L sz pf pl Lp ol) (hm1 : 1 ≤ mm) (hmk : mm < kk) (hk : kk ≤ 1000000) (hol0 : 0 < ol) : Met l y_T_leadsBehind (k_T_leadsBehind :: tl_ws) { frames := 2, cells := 0, slots := 0, locals := 50 } (tl_Pc D cJ cI cG cZ [.ref (ad 0), .int (nI (mm)), .int (nI (kk)), .long (x), .long (y), .int (tl_bi (false))] (fun H => va_P D tl_cl (tl_W cJ cI cG ad E nf T hn hs rt dn wm cr pf pl O ol r8) H)) (vp_Si (fun r => r = tl_bi (tl_ldF O ol mm kk x y))) 0 0 (fun _ => False) := by
  refine Met.ofW (cc := b_T_leadsBehind) (maxL := 20) (ret := (some .boolean)) (by decide) rfl ?_
  intro p e s m args below meth c s₁ B hml hv
  obtain ⟨rfl, hE, hP⟩ := hv
  have hx := B.exec
  have hb := B.bytes
  have hr := B.returns
  have hw : ∀ w ∈ tl_ws, w.before ([.ref (ad 0), .int (nI (mm)), .int (nI (kk)), .long (x), .long (y), .int (tl_bi (false))] : List Value).toArray s = true := fun w h => atoms_spec (ws := k_T_leadsBehind :: tl_ws) B.pre w (List.mem_cons_of_mem _ h)
  have hown : s.vm.findClass R_T = some m.cls := findClass_of_methodNamed B.named
  have hlocks := B.notSynchronized
  have hl := lv_entry ([.ref (ad 0), .int (nI (mm)), .int (nI (kk)), .long (x), .long (y), .int (tl_bi (false))]) (n := 20) (Nat.le_of_ble_eq_true rfl)
  rw [lg_entry_eq]
  generalize (lg_sl ([.ref (ad 0), .int (nI (mm)), .int (nI (kk)), .long (x), .long (y), .int (tl_bi (false))]) ++ List.replicate (20 - (lg_sl ([.ref (ad 0), .int (nI (mm)), .int (nI (kk)), .long (x), .long (y), .int (tl_bi (false))])).length) Slot.unset).toArray = ls at hl ⊢
  have hl : lv_has ls 20 [(0, .ref (ad 0)), (1, .int (nI (mm))), (2, .int (nI (kk))), (3, .long (x)), (5, .long (y)), (7, .int (tl_bi (false)))] := hl
  have hP : va_P D tl_cl (tl_W cJ cI cG ad E nf T hn hs rt dn wm cr pf pl O ol r8) s.heap := hP
  obtain ⟨hnf, hL, hh, hz, hsz, hpl, hpf, hp7, hol⟩ := hI
  have hpub : tl_pub L sz ≤ 64 := Nat.le_trans (tl_pub_le hsz) hnf
  have htz := tl_tz_lt (x := mm) (by omega)
  refine lv_iload_n hx hb d_T_leadsBehind_0 rfl (lv_at hl 1 rfl) ?_
  refine tl_goI (v := (nI (tl_tz mm))) (va_runS (As := [.int (nI (mm))]) (rest := []) ⟨hx, hb, hml, hown, hw⟩ (c_T_zerosAtEnd l mm (by omega)) (⟨tl_cB hw tl_m183 tl_m1 tl_m181 dd_T_zerosAtEnd rfl rfl ⟨Nat.le_of_ble_eq_true rfl, Nat.le_of_ble_eq_true rfl⟩, hw _ tl_m182⟩) (tl_pre0) rfl rfl hl.1 rfl (lv_room (Nat.le_of_ble_eq_true rfl)) d_T_leadsBehind_1 ⟨Nat.zero_le _, Nat.zero_le _⟩) ?_
  refine lv_istore (lv' := [(8, .int (nI (tl_tz mm))), (0, .ref (ad 0)), (1, .int (nI (mm))), (2, .int (nI (kk))), (3, .long (x)), (5, .long (y)), (7, .int (tl_bi (false)))]) hx hb d_T_leadsBehind_4 hl (by decide) rfl (fun ls hl => ?_)
  refine lv_iload_n hx hb d_T_leadsBehind_6 rfl (lv_at hl 2 rfl) ?_
  refine lv_iconst (v := (nI (1))) hx hb d_T_leadsBehind_7 (by decide) ?_
  refine lv_isub hx hb d_T_leadsBehind_8 ?_
  refine lv_topi (nm_r (e' := (nI (mm - 1))) (pk_sub (by omega)) ?_)
  refine lv_iload hx hb d_T_leadsBehind_9 (lv_at hl 0 rfl) ?_
  refine lv_ishr hx hb d_T_leadsBehind_11 ?_
  refine lv_topi (nm_r (e' := (nI ((mm - 1) / 2 ^ (tl_tz mm)))) (tl_shr (by omega) (by omega)) ?_)
  refine lv_istore (lv' := [(9, .int (nI ((mm - 1) / 2 ^ (tl_tz mm)))), (8, .int (nI (tl_tz mm))), (0, .ref (ad 0)), (1, .int (nI (mm))), (2, .int (nI (kk))), (3, .long (x)), (5, .long (y)), (7, .int (tl_bi (false)))]) hx hb d_T_leadsBehind_12 hl (by decide) rfl (fun ls hl => ?_)
  refine lv_iload_n hx hb d_T_leadsBehind_14 rfl (lv_at hl 4 rfl) ?_
  refine lv_iconst (v := (nI (1))) hx hb d_T_leadsBehind_15 (by decide) ?_
  refine lv_isub hx hb d_T_leadsBehind_16 ?_
  refine lv_topi (nm_r (e' := (nI (kk - 1))) (pk_sub (by omega)) ?_)
  refine lv_iload hx hb d_T_leadsBehind_17 (lv_at hl 1 rfl) ?_
  refine lv_ishr hx hb d_T_leadsBehind_19 ?_
  refine lv_topi (nm_r (e' := (nI ((kk - 1) / 2 ^ (tl_tz mm)))) (tl_shr (by omega) (by omega)) ?_)
  refine lv_istore (lv' := [(10, .int (nI ((kk - 1) / 2 ^ (tl_tz mm)))), (9, .int (nI ((mm - 1) / 2 ^ (tl_tz mm)))), (8, .int (nI (tl_tz mm))), (0, .ref (ad 0)), (1, .int (nI (mm))), (2, .int (nI (kk))), (3, .long (x)), (5, .long (y)), (7, .int (tl_bi (false)))]) hx hb d_T_leadsBehind_20 hl (by decide) rfl (fun ls hl => ?_)
  refine lv_iload hx hb d_T_leadsBehind_22 (lv_at hl 8 rfl) ?_
  refine tl_beq (v := false) (tgt := 31) hx hb d_T_leadsBehind_24 (by decide) (fun _ => ?_) (fun h => absurd h (by decide))
  refine lv_aload_n hx hb d_T_leadsBehind_31 rfl (lv_at hl 3 rfl) ?_
  refine va_get (ci := 0) (v := .ref (ad 3)) (C := R_T) (T := F_T) (N := 5) hx hb hw iw_T hown hE.1 hP 0 rfl rfl 3 (by decide) (hw _ tl_m35) (fun _ h9 => h9) rfl d_T_leadsBehind_32 ?_
  refine lv_iconst (v := (nI (0))) hx hb d_T_leadsBehind_35 (by decide) ?_
  refine tl_lald (a := 0) hx hb hE.1 hP 3 0 rfl rfl (by omega) (by decide) d_T_leadsBehind_36 ?_
  refine lv_lstore (lv' := [(11, .long (O 0)), (10, .int (nI ((kk - 1) / 2 ^ (tl_tz mm)))), (9, .int (nI ((mm - 1) / 2 ^ (tl_tz mm)))), (8, .int (nI (tl_tz mm))), (0, .ref (ad 0)), (1, .int (nI (mm))), (2, .int (nI (kk))), (3, .long (x)), (5, .long (y)), (7, .int (tl_bi (false)))]) hx hb d_T_leadsBehind_37 hl (by decide) rfl (fun ls hl => ?_)
  refine lv_lload hx hb d_T_leadsBehind_39 (lv_at hl 0 rfl) ?_
  refine lv_lstore (lv' := [(13, .long (O 0)), (11, .long (O 0)), (10, .int (nI ((kk - 1) / 2 ^ (tl_tz mm)))), (9, .int (nI ((mm - 1) / 2 ^ (tl_tz mm)))), (8, .int (nI (tl_tz mm))), (0, .ref (ad 0)), (1, .int (nI (mm))), (2, .int (nI (kk))), (3, .long (x)), (5, .long (y)), (7, .int (tl_bi (false)))]) hx hb d_T_leadsBehind_41 hl (by decide) rfl (fun ls hl => ?_)
  refine lv_iload hx hb d_T_leadsBehind_43 (lv_at hl 10 rfl) ?_
  refine tl_beq (v := false) (tgt := 52) hx hb d_T_leadsBehind_45 (by decide) (fun _ => ?_) (fun h => absurd h (by decide))
  refine lv_iconst (v := (nI (1))) hx hb d_T_leadsBehind_52 (by decide) ?_
  refine lv_istore (lv' := [(15, .int (nI (1))), (13, .long (O 0)), (11, .long (O 0)), (10, .int (nI ((kk - 1) / 2 ^ (tl_tz mm)))), (9, .int (nI ((mm - 1) / 2 ^ (tl_tz mm)))), (8, .int (nI (tl_tz mm))), (0, .ref (ad 0)), (1, .int (nI (mm))), (2, .int (nI (kk))), (3, .long (x)), (5, .long (y)), (7, .int (tl_bi (false)))]) hx hb d_T_leadsBehind_53 hl (by decide) rfl (fun ls hl => ?_)
  refine tl_loopR (fun n55 ls => ∃ (i : Nat) (f : Nat) (g : Nat) (va : Int64) (vb : Int64), lv_has ls 20 [(15, .int (nI (i))), (9, .int (nI (f))), (10, .int (nI (g))), (11, .long (va)), (13, .long (vb)), (3, .long (x)), (5, .long (y)), (0, .ref (ad 0))] ∧ (i ≤ ol) ∧ (n55 = ol - i) ∧ (f ≤ 1000000) ∧ (g ≤ 1000000) ∧ (tl_lead O (ol - i) i f g va vb = tl_lead O (ol - 1) 1 ((mm - 1) / 2 ^ tl_tz mm) ((kk - 1) / 2 ^ tl_tz mm) (O 0) (O 0))) (fun n55 ls hI ih55 => ?_) (ol - 1) _ ⟨1, (mm - 1) / 2 ^ tl_tz mm, (kk - 1) / 2 ^ tl_tz mm, O 0, O 0, lv_sub hl [0, 4, 3, 2, 1, 9, 10, 6] rfl, by omega, by omega, Nat.le_trans (tl_div_le _ _) (by omega), Nat.le_trans (tl_div_le _ _) (by omega), rfl⟩
  obtain ⟨i, f, g, va, vb, hl, hi, hm, hf, hg, hq⟩ := hI
  refine lv_iload hx hb d_T_leadsBehind_55 (lv_at hl 0 rfl) ?_
  refine lv_aload_n hx hb d_T_leadsBehind_57 rfl (lv_at hl 7 rfl) ?_
  refine va_get (ci := 0) (v := .int (nI (ol))) (C := R_T) (T := F_T) (N := 5) hx hb hw iw_T hown hE.1 hP 0 rfl rfl 4 (by decide) (hw _ tl_m36) (fun _ h9 => h9) rfl d_T_leadsBehind_58 ?_
  refine tl_cge (tgt := 156) (by omega) (by omega) hx hb d_T_leadsBehind_61 (by decide) (fun h61 => ?_) (fun h61 => ?_)
  · -- 61 t
    refine lv_iload hx hb d_T_leadsBehind_156 (lv_at hl 2 rfl) ?_
    refine tl_zne (tgt := 180) (by omega) hx hb d_T_leadsBehind_158 (by decide) (fun h158 => ?_) (fun h158 => ?_)
    · -- 158 t
      refine lv_iconst (v := (nI (0))) hx hb d_T_leadsBehind_180 (by decide) ?_
      exact W.zret hx hb hr rfl (fun t9 ht9 _ => ⟨(nI (0)), rfl, (by first | exact tl_bi1 (by unfold tl_ldF tl_ldB; rw [← hq, show ol - i = 0 by omega, tl_lead_0, h158, h165, h173]; simp) | exact tl_bi0 (by unfold tl_ldF tl_ldB; rw [← hq, show ol - i = 0 by omega, tl_lead_0, h158, h165]; simp [h173]) | exact tl_bi0 (by unfold tl_ldF tl_ldB; rw [← hq, show ol - i = 0 by omega, tl_lead_0, h158]; simp [h165]) | exact tl_bi0 (by unfold tl_ldF tl_ldB; rw [← hq, show ol - i = 0 by omega, tl_lead_0]; simp [h158])), ht9⟩) (fun q h => by cases h) d_T_leadsBehind_181
    · -- 158 f
      refine lv_lload hx hb d_T_leadsBehind_161 (lv_at hl 3 rfl) ?_
      refine lv_lload_n hx hb d_T_leadsBehind_163 rfl (lv_at hl 5 rfl) ?_
      refine tl_lne (tgt := 180) hx hb d_T_leadsBehind_164 d_T_leadsBehind_165 (by decide) (fun h165 => ?_) (fun h165 => ?_)
      · -- 165 t
        refine lv_iconst (v := (nI (0))) hx hb d_T_leadsBehind_180 (by decide) ?_
        exact W.zret hx hb hr rfl (fun t9 ht9 _ => ⟨(nI (0)), rfl, (by first | exact tl_bi1 (by unfold tl_ldF tl_ldB; rw [← hq, show ol - i = 0 by omega, tl_lead_0, h158, h165, h173]; simp) | exact tl_bi0 (by unfold tl_ldF tl_ldB; rw [← hq, show ol - i = 0 by omega, tl_lead_0, h158, h165]; simp [h173]) | exact tl_bi0 (by unfold tl_ldF tl_ldB; rw [← hq, show ol - i = 0 by omega, tl_lead_0, h158]; simp [h165]) | exact tl_bi0 (by unfold tl_ldF tl_ldB; rw [← hq, show ol - i = 0 by omega, tl_lead_0]; simp [h158])), ht9⟩) (fun q h => by cases h) d_T_leadsBehind_181
      · -- 165 f
        refine lv_lload hx hb d_T_leadsBehind_168 (lv_at hl 4 rfl) ?_
        refine lv_lload hx hb d_T_leadsBehind_170 (lv_at hl 6 rfl) ?_
        refine tl_lne (tgt := 180) hx hb d_T_leadsBehind_172 d_T_leadsBehind_173 (by decide) (fun h173 => ?_) (fun h173 => ?_)
        · -- 173 t
          refine lv_iconst (v := (nI (0))) hx hb d_T_leadsBehind_180 (by decide) ?_
          exact W.zret hx hb hr rfl (fun t9 ht9 _ => ⟨(nI (0)), rfl, (by first | exact tl_bi1 (by unfold tl_ldF tl_ldB; rw [← hq, show ol - i = 0 by omega, tl_lead_0, h158, h165, h173]; simp) | exact tl_bi0 (by unfold tl_ldF tl_ldB; rw [← hq, show ol - i = 0 by omega, tl_lead_0, h158, h165]; simp [h173]) | exact tl_bi0 (by unfold tl_ldF tl_ldB; rw [← hq, show ol - i = 0 by omega, tl_lead_0, h158]; simp [h165]) | exact tl_bi0 (by unfold tl_ldF tl_ldB; rw [← hq, show ol - i = 0 by omega, tl_lead_0]; simp [h158])), ht9⟩) (fun q h => by cases h) d_T_leadsBehind_181
        · -- 173 f
          refine lv_iconst (v := (nI (1))) hx hb d_T_leadsBehind_176 (by decide) ?_
          refine lv_goto (tgt := 181) hx hb d_T_leadsBehind_177 (by decide) ?_
          exact W.zret hx hb hr rfl (fun t9 ht9 _ => ⟨(nI (1)), rfl, (by first | exact tl_bi1 (by unfold tl_ldF tl_ldB; rw [← hq, show ol - i = 0 by omega, tl_lead_0, h158, h165, h173]; simp) | exact tl_bi0 (by unfold tl_ldF tl_ldB; rw [← hq, show ol - i = 0 by omega, tl_lead_0, h158, h165]; simp [h173]) | exact tl_bi0 (by unfold tl_ldF tl_ldB; rw [← hq, show ol - i = 0 by omega, tl_lead_0, h158]; simp [h165]) | exact tl_bi0 (by unfold tl_ldF tl_ldB; rw [← hq, show ol - i = 0 by omega, tl_lead_0]; simp [h158])), ht9⟩) (fun q h => by cases h) d_T_leadsBehind_181
  · -- 61 f
    refine lv_iload hx hb d_T_leadsBehind_64 (lv_at hl 2 rfl) ?_
    refine tl_zne (tgt := 71) (by omega) hx hb d_T_leadsBehind_66 (by decide) (fun h66 => ?_) (fun h66 => ?_)
    · -- 66 t
      refine lv_aload_n hx hb d_T_leadsBehind_71 rfl (lv_at hl 7 rfl) ?_
      refine va_get (ci := 0) (v := .ref (ad 3)) (C := R_T) (T := F_T) (N := 5) hx hb hw iw_T hown hE.1 hP 0 rfl rfl 3 (by decide) (hw _ tl_m35) (fun _ h9 => h9) rfl d_T_leadsBehind_72 ?_
      refine lv_iload hx hb d_T_leadsBehind_75 (lv_at hl 0 rfl) ?_
      refine tl_lald (a := i) hx hb hE.1 hP 3 0 rfl rfl (by omega) (by decide) d_T_leadsBehind_77 ?_
      refine lv_lstore (lv' := [(16, .long (O i)), (15, .int (nI (i))), (9, .int (nI (f))), (10, .int (nI (g))), (11, .long (va)), (13, .long (vb)), (3, .long (x)), (5, .long (y)), (0, .ref (ad 0))]) hx hb d_T_leadsBehind_78 hl (by decide) rfl (fun ls hl => ?_)
      refine lv_iload hx hb d_T_leadsBehind_80 (lv_at hl 2 rfl) ?_
      refine lv_iload hx hb d_T_leadsBehind_82 (lv_at hl 3 rfl) ?_
      refine tl_goI (v := (tl_bi (tl_left f g))) (va_runS (As := [.int (nI (f)), .int (nI (g))]) (rest := []) ⟨hx, hb, hml, hown, hw⟩ (c_T_standsLeft l f g (by omega) (by omega)) (⟨tl_cB hw tl_m177 tl_m1 tl_m175 dd_T_standsLeft rfl rfl ⟨Nat.le_of_ble_eq_true rfl, Nat.le_of_ble_eq_true rfl⟩, hw _ tl_m176⟩) (tl_pre0) rfl rfl hl.1 rfl (lv_room (Nat.le_of_ble_eq_true rfl)) d_T_leadsBehind_84 ⟨Nat.zero_le _, Nat.zero_le _⟩) ?_
      refine lv_istore (lv' := [(18, .int (tl_bi (tl_left f g))), (16, .long (O i)), (15, .int (nI (i))), (9, .int (nI (f))), (10, .int (nI (g))), (11, .long (va)), (13, .long (vb)), (3, .long (x)), (5, .long (y)), (0, .ref (ad 0))]) hx hb d_T_leadsBehind_87 hl (by decide) rfl (fun ls hl => ?_)
      refine lv_iload hx hb d_T_leadsBehind_89 (lv_at hl 0 rfl) ?_
      refine tl_beq (tgt := 103) hx hb d_T_leadsBehind_91 (by decide) (fun h91 => ?_) (fun h91 => ?_)
      · -- 91 t
        rw [h91] at hl
        refine lv_iload hx hb d_T_leadsBehind_103 (lv_at hl 0 rfl) ?_
        refine tl_beq (v := false) (tgt := 118) hx hb d_T_leadsBehind_105 (by decide) (fun _ => ?_) (fun h => absurd h (by decide))
        refine lv_lload hx hb d_T_leadsBehind_118 (lv_at hl 6 rfl) ?_
        refine lv_lload hx hb d_T_leadsBehind_120 (lv_at hl 1 rfl) ?_
        refine tl_goL (v := (tl_node (vb) (O i))) (va_runSN (As := [.long (vb), .long (O i)]) (rest := []) ⟨hx, hb, hml, hown, hw⟩ (c_H_ofNode l (vb) (O i)) (⟨tl_cN hw tl_m83 tl_m4 (tl_n12 hE.2) dd_H_ofNode rfl rfl ⟨Nat.le_of_ble_eq_true rfl, Nat.le_of_ble_eq_true rfl⟩, hw _ tl_m82, trivial⟩) (tl_pre0) rfl rfl hl.1 rfl (lv_room (Nat.le_of_ble_eq_true rfl)) d_T_leadsBehind_122 ⟨Nat.zero_le _, Nat.zero_le _⟩) ?_
        refine lv_lstore (lv' := [(13, .long (tl_node (vb) (O i))), (18, .int (tl_bi (false))), (16, .long (O i)), (15, .int (nI (i))), (9, .int (nI (f))), (10, .int (nI (g))), (11, .long (va)), (3, .long (x)), (5, .long (y)), (0, .ref (ad 0))]) hx hb d_T_leadsBehind_125 hl (by decide) rfl (fun ls hl => ?_)
        refine lv_iload hx hb d_T_leadsBehind_127 (lv_at hl 4 rfl) ?_
        refine lv_iload hx hb d_T_leadsBehind_129 (lv_at hl 1 rfl) ?_
        refine tl_goI (v := (nI (tl_lvB f false))) (va_runS (As := [.int (nI (f)), .int (tl_bi (false))]) (rest := []) ⟨hx, hb, hml, hown, hw⟩ (c_T_levelsClimbed l f false (by omega)) (⟨tl_cB hw tl_m180 tl_m1 tl_m178 dd_T_levelsClimbed rfl rfl ⟨Nat.le_of_ble_eq_true rfl, Nat.le_of_ble_eq_true rfl⟩, hw _ tl_m179⟩) (tl_pre0) rfl rfl hl.1 rfl (lv_room (Nat.le_of_ble_eq_true rfl)) d_T_leadsBehind_131 ⟨Nat.zero_le _, Nat.zero_le _⟩) ?_
        have hlv := tl_lv_lt (f := f) (g := g) (by omega)
        refine lv_topi (nm_r (e' := (nI (tl_lv f g))) (by first | (rw [tl_lv_t h91]; rfl) | (rw [tl_lv_f h91]; rfl)) ?_)
        refine lv_istore (lv' := [(19, .int (nI (tl_lv f g))), (13, .long (tl_node (vb) (O i))), (18, .int (tl_bi (false))), (16, .long (O i)), (15, .int (nI (i))), (9, .int (nI (f))), (10, .int (nI (g))), (11, .long (va)), (3, .long (x)), (5, .long (y)), (0, .ref (ad 0))]) hx hb d_T_leadsBehind_134 hl (by decide) rfl (fun ls hl => ?_)
        refine lv_iload hx hb d_T_leadsBehind_136 (lv_at hl 5 rfl) ?_
        refine lv_iload hx hb d_T_leadsBehind_138 (lv_at hl 0 rfl) ?_
        refine lv_ishr hx hb d_T_leadsBehind_140 ?_
        refine lv_topi (nm_r (e' := (nI (f / 2 ^ (tl_lv f g)))) (tl_shr (by omega) (by omega)) ?_)
        refine lv_istore (lv' := [(9, .int (nI (f / 2 ^ (tl_lv f g)))), (19, .int (nI (tl_lv f g))), (13, .long (tl_node (vb) (O i))), (18, .int (tl_bi (false))), (16, .long (O i)), (15, .int (nI (i))), (10, .int (nI (g))), (11, .long (va)), (3, .long (x)), (5, .long (y)), (0, .ref (ad 0))]) hx hb d_T_leadsBehind_141 hl (by decide) rfl (fun ls hl => ?_)
        refine lv_iload hx hb d_T_leadsBehind_143 (lv_at hl 6 rfl) ?_
        refine lv_iload hx hb d_T_leadsBehind_145 (lv_at hl 1 rfl) ?_
        refine lv_ishr hx hb d_T_leadsBehind_147 ?_
        refine lv_topi (nm_r (e' := (nI (g / 2 ^ (tl_lv f g)))) (tl_shr (by omega) (by omega)) ?_)
        refine lv_istore (lv' := [(10, .int (nI (g / 2 ^ (tl_lv f g)))), (9, .int (nI (f / 2 ^ (tl_lv f g)))), (19, .int (nI (tl_lv f g))), (13, .long (tl_node (vb) (O i))), (18, .int (tl_bi (false))), (16, .long (O i)), (15, .int (nI (i))), (11, .long (va)), (3, .long (x)), (5, .long (y)), (0, .ref (ad 0))]) hx hb d_T_leadsBehind_148 hl (by decide) rfl (fun ls hl => ?_)
        refine lv_iinc (k := 6) (v := (nI (i + 1))) (lv' := [(15, .int (nI (i + 1))), (10, .int (nI (g / 2 ^ (tl_lv f g)))), (9, .int (nI (f / 2 ^ (tl_lv f g)))), (19, .int (nI (tl_lv f g))), (13, .long (tl_node (vb) (O i))), (18, .int (tl_bi (false))), (16, .long (O i)), (11, .long (va)), (3, .long (x)), (5, .long (y)), (0, .ref (ad 0))]) hx hb d_T_leadsBehind_150 hl rfl (by rw [lit1]; exact (nI_succ _).symm) (by decide) rfl (fun ls hl => ?_)
        refine lv_goto (tgt := 55) hx hb d_T_leadsBehind_153 (by decide) ?_
        exact ih55 (n55 - 1) _ (by omega) ⟨i + 1, f / 2 ^ tl_lv f g, g / 2 ^ tl_lv f g, (va), (tl_node (vb) (O i)), lv_sub hl [0, 2, 1, 7, 4, 8, 9, 10] rfl, by omega, by omega, Nat.le_trans (tl_div_le _ _) hf, Nat.le_trans (tl_div_le _ _) hg, (by rw [← hq, show ol - i = (ol - (i + 1)) + 1 by omega]; first | rw [tl_lead_t h66 h91] | rw [tl_lead_f h66 h91])⟩
      · -- 91 f
        rw [h91] at hl
        refine lv_lload hx hb d_T_leadsBehind_94 (lv_at hl 1 rfl) ?_
        refine lv_lload hx hb d_T_leadsBehind_96 (lv_at hl 5 rfl) ?_
        refine tl_goL (v := (tl_node (O i) (va))) (va_runSN (As := [.long (O i), .long (va)]) (rest := []) ⟨hx, hb, hml, hown, hw⟩ (c_H_ofNode l (O i) (va)) (⟨tl_cN hw tl_m83 tl_m4 (tl_n12 hE.2) dd_H_ofNode rfl rfl ⟨Nat.le_of_ble_eq_true rfl, Nat.le_of_ble_eq_true rfl⟩, hw _ tl_m82, trivial⟩) (tl_pre0) rfl rfl hl.1 rfl (lv_room (Nat.le_of_ble_eq_true rfl)) d_T_leadsBehind_98 ⟨Nat.zero_le _, Nat.zero_le _⟩) ?_
        refine lv_lstore (lv' := [(11, .long (tl_node (O i) (va))), (18, .int (tl_bi (true))), (16, .long (O i)), (15, .int (nI (i))), (9, .int (nI (f))), (10, .int (nI (g))), (13, .long (vb)), (3, .long (x)), (5, .long (y)), (0, .ref (ad 0))]) hx hb d_T_leadsBehind_101 hl (by decide) rfl (fun ls hl => ?_)
        refine lv_iload hx hb d_T_leadsBehind_103 (lv_at hl 1 rfl) ?_
        refine tl_beq (v := true) (tgt := 118) hx hb d_T_leadsBehind_105 (by decide) (fun h => absurd h (by decide)) (fun _ => ?_)
        refine lv_lload hx hb d_T_leadsBehind_108 (lv_at hl 2 rfl) ?_
        refine lv_lload hx hb d_T_leadsBehind_110 (lv_at hl 6 rfl) ?_
        refine tl_goL (v := (tl_node (O i) (vb))) (va_runSN (As := [.long (O i), .long (vb)]) (rest := []) ⟨hx, hb, hml, hown, hw⟩ (c_H_ofNode l (O i) (vb)) (⟨tl_cN hw tl_m83 tl_m4 (tl_n12 hE.2) dd_H_ofNode rfl rfl ⟨Nat.le_of_ble_eq_true rfl, Nat.le_of_ble_eq_true rfl⟩, hw _ tl_m82, trivial⟩) (tl_pre0) rfl rfl hl.1 rfl (lv_room (Nat.le_of_ble_eq_true rfl)) d_T_leadsBehind_112 ⟨Nat.zero_le _, Nat.zero_le _⟩) ?_
        refine lv_goto (tgt := 125) hx hb d_T_leadsBehind_115 (by decide) ?_
        refine lv_lstore (lv' := [(13, .long (tl_node (O i) (vb))), (11, .long (tl_node (O i) (va))), (18, .int (tl_bi (true))), (16, .long (O i)), (15, .int (nI (i))), (9, .int (nI (f))), (10, .int (nI (g))), (3, .long (x)), (5, .long (y)), (0, .ref (ad 0))]) hx hb d_T_leadsBehind_125 hl (by decide) rfl (fun ls hl => ?_)
        refine lv_iload hx hb d_T_leadsBehind_127 (lv_at hl 5 rfl) ?_
        refine lv_iload hx hb d_T_leadsBehind_129 (lv_at hl 2 rfl) ?_
        refine tl_goI (v := (nI (tl_lvB f true))) (va_runS (As := [.int (nI (f)), .int (tl_bi (true))]) (rest := []) ⟨hx, hb, hml, hown, hw⟩ (c_T_levelsClimbed l f true (by omega)) (⟨tl_cB hw tl_m180 tl_m1 tl_m178 dd_T_levelsClimbed rfl rfl ⟨Nat.le_of_ble_eq_true rfl, Nat.le_of_ble_eq_true rfl⟩, hw _ tl_m179⟩) (tl_pre0) rfl rfl hl.1 rfl (lv_room (Nat.le_of_ble_eq_true rfl)) d_T_leadsBehind_131 ⟨Nat.zero_le _, Nat.zero_le _⟩) ?_
        have hlv := tl_lv_lt (f := f) (g := g) (by omega)
        refine lv_topi (nm_r (e' := (nI (tl_lv f g))) (by first | (rw [tl_lv_t h91]; rfl) | (rw [tl_lv_f h91]; rfl)) ?_)
        refine lv_istore (lv' := [(19, .int (nI (tl_lv f g))), (13, .long (tl_node (O i) (vb))), (11, .long (tl_node (O i) (va))), (18, .int (tl_bi (true))), (16, .long (O i)), (15, .int (nI (i))), (9, .int (nI (f))), (10, .int (nI (g))), (3, .long (x)), (5, .long (y)), (0, .ref (ad 0))]) hx hb d_T_leadsBehind_134 hl (by decide) rfl (fun ls hl => ?_)
        refine lv_iload hx hb d_T_leadsBehind_136 (lv_at hl 6 rfl) ?_
        refine lv_iload hx hb d_T_leadsBehind_138 (lv_at hl 0 rfl) ?_
        refine lv_ishr hx hb d_T_leadsBehind_140 ?_
        refine lv_topi (nm_r (e' := (nI (f / 2 ^ (tl_lv f g)))) (tl_shr (by omega) (by omega)) ?_)
        refine lv_istore (lv' := [(9, .int (nI (f / 2 ^ (tl_lv f g)))), (19, .int (nI (tl_lv f g))), (13, .long (tl_node (O i) (vb))), (11, .long (tl_node (O i) (va))), (18, .int (tl_bi (true))), (16, .long (O i)), (15, .int (nI (i))), (10, .int (nI (g))), (3, .long (x)), (5, .long (y)), (0, .ref (ad 0))]) hx hb d_T_leadsBehind_141 hl (by decide) rfl (fun ls hl => ?_)
        refine lv_iload hx hb d_T_leadsBehind_143 (lv_at hl 7 rfl) ?_
        refine lv_iload hx hb d_T_leadsBehind_145 (lv_at hl 1 rfl) ?_
        refine lv_ishr hx hb d_T_leadsBehind_147 ?_
        refine lv_topi (nm_r (e' := (nI (g / 2 ^ (tl_lv f g)))) (tl_shr (by omega) (by omega)) ?_)
        refine lv_istore (lv' := [(10, .int (nI (g / 2 ^ (tl_lv f g)))), (9, .int (nI (f / 2 ^ (tl_lv f g)))), (19, .int (nI (tl_lv f g))), (13, .long (tl_node (O i) (vb))), (11, .long (tl_node (O i) (va))), (18, .int (tl_bi (true))), (16, .long (O i)), (15, .int (nI (i))), (3, .long (x)), (5, .long (y)), (0, .ref (ad 0))]) hx hb d_T_leadsBehind_148 hl (by decide) rfl (fun ls hl => ?_)
        refine lv_iinc (k := 7) (v := (nI (i + 1))) (lv' := [(15, .int (nI (i + 1))), (10, .int (nI (g / 2 ^ (tl_lv f g)))), (9, .int (nI (f / 2 ^ (tl_lv f g)))), (19, .int (nI (tl_lv f g))), (13, .long (tl_node (O i) (vb))), (11, .long (tl_node (O i) (va))), (18, .int (tl_bi (true))), (16, .long (O i)), (3, .long (x)), (5, .long (y)), (0, .ref (ad 0))]) hx hb d_T_leadsBehind_150 hl rfl (by rw [lit1]; exact (nI_succ _).symm) (by decide) rfl (fun ls hl => ?_)
        refine lv_goto (tgt := 55) hx hb d_T_leadsBehind_153 (by decide) ?_
        exact ih55 (n55 - 1) _ (by omega) ⟨i + 1, f / 2 ^ tl_lv f g, g / 2 ^ tl_lv f g, (tl_node (O i) (va)), (tl_node (O i) (vb)), lv_sub hl [0, 2, 1, 5, 4, 8, 9, 10] rfl, by omega, by omega, Nat.le_trans (tl_div_le _ _) hf, Nat.le_trans (tl_div_le _ _) hg, (by rw [← hq, show ol - i = (ol - (i + 1)) + 1 by omega]; first | rw [tl_lead_t h66 h91] | rw [tl_lead_f h66 h91])⟩
    · -- 66 f
      refine lv_iconst (v := (nI (0))) hx hb d_T_leadsBehind_69 (by decide) ?_
      exact W.zret hx hb hr rfl (fun t9 ht9 _ => ⟨(nI (0)), rfl, (tl_bi0 (by unfold tl_ldF; rw [← hq, show ol - i = (ol - (i + 1)) + 1 by omega, tl_lead_no h66]; rfl)), ht9⟩) (fun q h => by cases h) d_T_leadsBehind_70

set_option maxHeartbeats 4000000 in
set_option maxRecDepth 100000 in
theorem c_T_leads (l : Launch) (D : va_G) (cJ cI cG cZ : ClassId) (ad : Nat → Nat) (E : Nat → Int64) (nf : Nat) (T : Nat → Nat → Int64) (hn hs : Nat → Int32) (rt : Nat → Int64) (dn : Bool) (wm cr : Int32) (pf : Nat → Int64) (pl : Nat) (O : Nat → Int64) (ol : Nat) (r8 : Nat → Int64) (L : Nat) (sz : Nat → Nat) (Lp : List Int64) (mI kI : Int32) (x y : Int64) (hI : tl_H nf hn hs L sz pf pl Lp ol) : Met l y_T_leads (k_T_leads :: tl_ws) { frames := 3, cells := 0, slots := 0, locals := 89 } (tl_Pc D cJ cI cG cZ [.ref (ad 0), .int (mI), .int (kI), .long (x), .long (y)] (fun H => va_P D tl_cl (tl_W cJ cI cG ad E nf T hn hs rt dn wm cr pf pl O ol r8) H)) (vp_Si (fun r => r = tl_bi (tl_ldA O ol mI kI x y))) 0 0 (fun _ => False) := by
  refine Met.ofW (cc := b_T_leads) (maxL := 8) (ret := (some .boolean)) (by decide) rfl ?_
  intro p e s m args below meth c s₁ B hml hv
  obtain ⟨rfl, hE, hP⟩ := hv
  have hx := B.exec
  have hb := B.bytes
  have hr := B.returns
  have hw : ∀ w ∈ tl_ws, w.before ([.ref (ad 0), .int (mI), .int (kI), .long (x), .long (y)] : List Value).toArray s = true := fun w h => atoms_spec (ws := k_T_leads :: tl_ws) B.pre w (List.mem_cons_of_mem _ h)
  have hown : s.vm.findClass R_T = some m.cls := findClass_of_methodNamed B.named
  have hlocks := B.notSynchronized
  have hl := lv_entry ([.ref (ad 0), .int (mI), .int (kI), .long (x), .long (y)]) (n := 8) (Nat.le_of_ble_eq_true rfl)
  rw [lg_entry_eq]
  generalize (lg_sl ([.ref (ad 0), .int (mI), .int (kI), .long (x), .long (y)]) ++ List.replicate (8 - (lg_sl ([.ref (ad 0), .int (mI), .int (kI), .long (x), .long (y)])).length) Slot.unset).toArray = ls at hl ⊢
  have hl : lv_has ls 8 [(0, .ref (ad 0)), (1, .int (mI)), (2, .int (kI)), (3, .long (x)), (5, .long (y))] := hl
  have hP : va_P D tl_cl (tl_W cJ cI cG ad E nf T hn hs rt dn wm cr pf pl O ol r8) s.heap := hP
  have hI0 := hI
  obtain ⟨hnf, hL, hh, hz, hsz, hpl, hpf, hp7, hol⟩ := hI
  have hpub : tl_pub L sz ≤ 64 := Nat.le_trans (tl_pub_le hsz) hnf
  refine lv_iload_n hx hb d_T_leads_0 rfl (lv_at hl 2 rfl) ?_
  refine lv_iconst (v := (nI (1))) hx hb d_T_leads_1 (by decide) ?_
  refine lv_icmp_lt (tgt := 21) hx hb d_T_leads_2 (by decide) (fun h2 => ?_) (fun h2 => ?_)
  · -- 2 t
    refine lv_iconst (v := (nI (0))) hx hb d_T_leads_21 (by decide) ?_
    exact W.zret hx hb hr rfl (fun t9 ht9 _ => ⟨(nI (0)), rfl, (tl_bi0 (by unfold tl_ldA; first | (rw [if_pos h2]; done) | (rw [if_neg h2, if_pos h8]; done) | (rw [if_neg h2, if_neg h8, if_pos h13]; done) | rw [if_neg h2, if_neg h8, if_neg h13, if_neg h18])), ht9⟩) (fun q h => by cases h) d_T_leads_22
  · -- 2 f
    refine lv_iload_n hx hb d_T_leads_5 rfl (lv_at hl 2 rfl) ?_
    refine lv_ldc (v := 1000000) hx hb hown (hw _ tl_m174) d_T_leads_6 ?_
    refine lv_topi (nm_r (e' := (nI (1000000))) (rfl) ?_)
    refine lv_icmp_gt (tgt := 21) hx hb d_T_leads_8 (by decide) (fun h8 => ?_) (fun h8 => ?_)
    · -- 8 t
      refine lv_iconst (v := (nI (0))) hx hb d_T_leads_21 (by decide) ?_
      exact W.zret hx hb hr rfl (fun t9 ht9 _ => ⟨(nI (0)), rfl, (tl_bi0 (by unfold tl_ldA; first | (rw [if_pos h2]; done) | (rw [if_neg h2, if_pos h8]; done) | (rw [if_neg h2, if_neg h8, if_pos h13]; done) | rw [if_neg h2, if_neg h8, if_neg h13, if_neg h18])), ht9⟩) (fun q h => by cases h) d_T_leads_22
    · -- 8 f
      refine lv_iload_n hx hb d_T_leads_11 rfl (lv_at hl 1 rfl) ?_
      refine lv_iconst (v := (nI (1))) hx hb d_T_leads_12 (by decide) ?_
      refine lv_icmp_lt (tgt := 21) hx hb d_T_leads_13 (by decide) (fun h13 => ?_) (fun h13 => ?_)
      · -- 13 t
        refine lv_iconst (v := (nI (0))) hx hb d_T_leads_21 (by decide) ?_
        exact W.zret hx hb hr rfl (fun t9 ht9 _ => ⟨(nI (0)), rfl, (tl_bi0 (by unfold tl_ldA; first | (rw [if_pos h2]; done) | (rw [if_neg h2, if_pos h8]; done) | (rw [if_neg h2, if_neg h8, if_pos h13]; done) | rw [if_neg h2, if_neg h8, if_neg h13, if_neg h18])), ht9⟩) (fun q h => by cases h) d_T_leads_22
      · -- 13 f
        refine lv_iload_n hx hb d_T_leads_16 rfl (lv_at hl 1 rfl) ?_
        refine lv_iload_n hx hb d_T_leads_17 rfl (lv_at hl 2 rfl) ?_
        refine lv_icmp_le (tgt := 23) hx hb d_T_leads_18 (by decide) (fun h18 => ?_) (fun h18 => ?_)
        · -- 18 t
          obtain ⟨kk, hk1, hk2, rfl⟩ := tl_ge1 h2
          obtain ⟨mm, hm1, hm2, rfl⟩ := tl_ge1 h13
          have g18 : mm ≤ kk := (nI_leI hm2 hk2).mp h18
          have g8 : kk ≤ 1000000 := Nat.le_of_not_lt (fun q => h8 ((nI_ltI (by decide) hk2).mpr q))
          have hsp : tl_ldA O ol (nI mm) (nI kk) x y = (if nI mm = nI kk then (ol == 0 && x == y) else if tl_p2 (nI mm) then tl_ldT O ol mm kk x y else if ol = 0 then false else tl_ldF O ol mm kk x y) := by unfold tl_ldA; rw [if_neg h2, if_neg h8, if_neg h13, if_pos h18, nI_clamp hm2, nI_clamp hk2]
          refine lv_iload_n hx hb d_T_leads_23 rfl (lv_at hl 1 rfl) ?_
          refine lv_iload_n hx hb d_T_leads_24 rfl (lv_at hl 2 rfl) ?_
          refine tl_cne (tgt := 48) (by omega) (by omega) hx hb d_T_leads_25 (by decide) (fun h25 => ?_) (fun h25 => ?_)
          · -- 25 t
            have g25 : ¬ nI mm = nI kk := fun q => h25 ((nI_eq hm2 hk2).mp q)
            refine lv_iload_n hx hb d_T_leads_48 rfl (lv_at hl 1 rfl) ?_
            refine tl_goI (v := (tl_bi (tl_p2 (nI (mm))))) (va_runS (As := [.int (nI (mm))]) (rest := []) ⟨hx, hb, hml, hown, hw⟩ (c_T_isPowerOfTwo l (nI (mm))) (⟨tl_cB hw tl_m190 tl_m1 tl_m188 dd_T_isPowerOfTwo rfl rfl ⟨Nat.le_of_ble_eq_true rfl, Nat.le_of_ble_eq_true rfl⟩, hw _ tl_m189⟩) (tl_pre0) rfl rfl hl.1 rfl (lv_room (Nat.le_of_ble_eq_true rfl)) d_T_leads_49 ⟨Nat.zero_le _, Nat.zero_le _⟩) ?_
            refine lv_istore (lv' := [(7, .int (tl_bi (tl_p2 (nI (mm))))), (0, .ref (ad 0)), (1, .int (nI (mm))), (2, .int (nI (kk))), (3, .long (x)), (5, .long (y))]) hx hb d_T_leads_52 hl (by decide) rfl (fun ls hl => ?_)
            refine lv_iload hx hb d_T_leads_54 (lv_at hl 0 rfl) ?_
            refine tl_bne (tgt := 68) hx hb d_T_leads_56 (by decide) (fun h56 => ?_) (fun h56 => ?_)
            · -- 56 t
              rw [h56] at hl
              refine lv_aload_n hx hb d_T_leads_68 rfl (lv_at hl 1 rfl) ?_
              refine lv_iload_n hx hb d_T_leads_69 rfl (lv_at hl 2 rfl) ?_
              refine lv_iload_n hx hb d_T_leads_70 rfl (lv_at hl 3 rfl) ?_
              refine lv_lload_n hx hb d_T_leads_71 rfl (lv_at hl 4 rfl) ?_
              refine lv_lload hx hb d_T_leads_72 (lv_at hl 5 rfl) ?_
              refine lv_iload hx hb d_T_leads_74 (lv_at hl 0 rfl) ?_
              refine tl_goI (v := (tl_bi (tl_ldT O ol mm kk x y))) (va_runV (As := [.int (nI (mm)), .int (nI (kk)), .long (x), .long (y), .int (tl_bi (true))]) (rest := []) ⟨hx, hb, hml, hown, hw⟩ (c_T_leadsBehind_t l D cJ cI cG cZ ad E nf T hn hs rt dn wm cr pf pl O ol r8 L sz Lp mm kk x y hI0 (by omega) (by omega) (by omega)) (⟨tl_cB hw tl_m193 tl_m1 tl_m191 dd_T_leadsBehind rfl rfl ⟨Nat.le_of_ble_eq_true rfl, Nat.le_of_ble_eq_true rfl⟩, hw _ tl_m192, hw _ tl_m368⟩) (tl_preV hE hP (va_recv (q0 := 0) (ci := 0) (q := (R_T, F_T, 5)) hE.1 hP rfl rfl)) rfl rfl hl.1 rfl (lv_room (Nat.le_of_ble_eq_true rfl)) d_T_leads_76 ⟨Nat.zero_le _, Nat.zero_le _⟩) ?_
              exact W.zret hx hb hr (tl_bi_nar _) (fun t9 ht9 _ => ⟨(tl_bi (tl_ldT O ol mm kk x y)), rfl, (by rw [hsp, if_neg g25, h56]; first | (rw [if_pos rfl]; done) | rw [if_neg (by decide), if_neg h63]), ht9⟩) (fun q h => by cases h) d_T_leads_79
            · -- 56 f
              rw [h56] at hl
              refine lv_aload_n hx hb d_T_leads_59 rfl (lv_at hl 1 rfl) ?_
              refine va_get (ci := 0) (v := .int (nI (ol))) (C := R_T) (T := F_T) (N := 5) hx hb hw iw_T hown hE.1 hP 0 rfl rfl 4 (by decide) (hw _ tl_m36) (fun _ h9 => h9) rfl d_T_leads_60 ?_
              refine tl_zne (tgt := 68) (by omega) hx hb d_T_leads_63 (by decide) (fun h63 => ?_) (fun h63 => ?_)
              · -- 63 t
                refine lv_aload_n hx hb d_T_leads_68 rfl (lv_at hl 1 rfl) ?_
                refine lv_iload_n hx hb d_T_leads_69 rfl (lv_at hl 2 rfl) ?_
                refine lv_iload_n hx hb d_T_leads_70 rfl (lv_at hl 3 rfl) ?_
                refine lv_lload_n hx hb d_T_leads_71 rfl (lv_at hl 4 rfl) ?_
                refine lv_lload hx hb d_T_leads_72 (lv_at hl 5 rfl) ?_
                refine lv_iload hx hb d_T_leads_74 (lv_at hl 0 rfl) ?_
                refine tl_goI (v := (tl_bi (tl_ldF O ol mm kk x y))) (va_runV (As := [.int (nI (mm)), .int (nI (kk)), .long (x), .long (y), .int (tl_bi (false))]) (rest := []) ⟨hx, hb, hml, hown, hw⟩ (c_T_leadsBehind_f l D cJ cI cG cZ ad E nf T hn hs rt dn wm cr pf pl O ol r8 L sz Lp mm kk x y hI0 (by omega) (by omega) (by omega) (by omega)) (⟨tl_cB hw tl_m193 tl_m1 tl_m191 dd_T_leadsBehind rfl rfl ⟨Nat.le_of_ble_eq_true rfl, Nat.le_of_ble_eq_true rfl⟩, hw _ tl_m192, hw _ tl_m368⟩) (tl_preV hE hP (va_recv (q0 := 0) (ci := 0) (q := (R_T, F_T, 5)) hE.1 hP rfl rfl)) rfl rfl hl.1 rfl (lv_room (Nat.le_of_ble_eq_true rfl)) d_T_leads_76 ⟨Nat.zero_le _, Nat.zero_le _⟩) ?_
                exact W.zret hx hb hr (tl_bi_nar _) (fun t9 ht9 _ => ⟨(tl_bi (tl_ldF O ol mm kk x y)), rfl, (by rw [hsp, if_neg g25, h56]; first | (rw [if_pos rfl]; done) | rw [if_neg (by decide), if_neg h63]), ht9⟩) (fun q h => by cases h) d_T_leads_79
              · -- 63 f
                refine lv_iconst (v := (nI (0))) hx hb d_T_leads_66 (by decide) ?_
                exact W.zret hx hb hr rfl (fun t9 ht9 _ => ⟨(nI (0)), rfl, (tl_bi0 (by rw [hsp, if_neg g25, h56, if_neg (by decide), if_pos h63])), ht9⟩) (fun q h => by cases h) d_T_leads_67
          · -- 25 f
            refine lv_aload_n hx hb d_T_leads_28 rfl (lv_at hl 0 rfl) ?_
            refine va_get (ci := 0) (v := .int (nI (ol))) (C := R_T) (T := F_T) (N := 5) hx hb hw iw_T hown hE.1 hP 0 rfl rfl 4 (by decide) (hw _ tl_m36) (fun _ h9 => h9) rfl d_T_leads_29 ?_
            refine tl_zne (tgt := 46) (by omega) hx hb d_T_leads_32 (by decide) (fun h32 => ?_) (fun h32 => ?_)
            · -- 32 t
              refine lv_iconst (v := (nI (0))) hx hb d_T_leads_46 (by decide) ?_
              exact W.zret hx hb hr rfl (fun t9 ht9 _ => ⟨(nI (0)), rfl, (by first | exact tl_bi1 (by rw [hsp, if_pos (by rw [h25]), h32, h39]; simp) | exact tl_bi0 (by rw [hsp, if_pos (by rw [h25]), h32]; simp [h39]) | exact tl_bi0 (by rw [hsp, if_pos (by rw [h25])]; simp [h32])), ht9⟩) (fun q h => by cases h) d_T_leads_47
            · -- 32 f
              refine lv_lload_n hx hb d_T_leads_35 rfl (lv_at hl 3 rfl) ?_
              refine lv_lload hx hb d_T_leads_36 (lv_at hl 4 rfl) ?_
              refine tl_lne (tgt := 46) hx hb d_T_leads_38 d_T_leads_39 (by decide) (fun h39 => ?_) (fun h39 => ?_)
              · -- 39 t
                refine lv_iconst (v := (nI (0))) hx hb d_T_leads_46 (by decide) ?_
                exact W.zret hx hb hr rfl (fun t9 ht9 _ => ⟨(nI (0)), rfl, (by first | exact tl_bi1 (by rw [hsp, if_pos (by rw [h25]), h32, h39]; simp) | exact tl_bi0 (by rw [hsp, if_pos (by rw [h25]), h32]; simp [h39]) | exact tl_bi0 (by rw [hsp, if_pos (by rw [h25])]; simp [h32])), ht9⟩) (fun q h => by cases h) d_T_leads_47
              · -- 39 f
                refine lv_iconst (v := (nI (1))) hx hb d_T_leads_42 (by decide) ?_
                refine lv_goto (tgt := 47) hx hb d_T_leads_43 (by decide) ?_
                exact W.zret hx hb hr rfl (fun t9 ht9 _ => ⟨(nI (1)), rfl, (by first | exact tl_bi1 (by rw [hsp, if_pos (by rw [h25]), h32, h39]; simp) | exact tl_bi0 (by rw [hsp, if_pos (by rw [h25]), h32]; simp [h39]) | exact tl_bi0 (by rw [hsp, if_pos (by rw [h25])]; simp [h32])), ht9⟩) (fun q h => by cases h) d_T_leads_47
        · -- 18 f
          refine lv_iconst (v := (nI (0))) hx hb d_T_leads_21 (by decide) ?_
          exact W.zret hx hb hr rfl (fun t9 ht9 _ => ⟨(nI (0)), rfl, (tl_bi0 (by unfold tl_ldA; first | (rw [if_pos h2]; done) | (rw [if_neg h2, if_pos h8]; done) | (rw [if_neg h2, if_neg h8, if_pos h13]; done) | rw [if_neg h2, if_neg h8, if_neg h13, if_neg h18])), ht9⟩) (fun q h => by cases h) d_T_leads_22
