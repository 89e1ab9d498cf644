set_option maxHeartbeats 4000000 in
set_option maxRecDepth 100000 in
theorem c_M_shows (l : Launch) (D : va_G) (cJ cI cG cZ : ClassId) (bd : Nat → Nat) (E : Nat → Int64) (nf : Nat) (tf : Nat → Int64) (hn hs : Nat → Int32) (rt : Nat → Int64) (dn : Bool) (wm cr : Int32) (cd : Bool) (pf : Nat → Int64) (pl : Nat) (O : Nat → Int64) (ol : Nat) (rw : Nat → Int64) (rl : Nat) (wh : Nat → Int64) (th : Nat → Int32) (L : Nat) (sz : Nat → Nat) (Lp : List Int64) (T : Nat → Nat → Int64) (x : Int64) (mI kI : Int32) (rI : Int64) (hI : tl_G nf hn hs L sz pf pl Lp ol T tf) : Met l y_M_shows (k_M_shows :: tl_ws) { frames := 2, cells := 0, slots := 0, locals := 50 } (tl_Pc D cJ cI cG cZ [.ref (bd 0), .long (x), .int (mI), .int (kI), .long (rI)] (fun H => va_P D tl_cl (tl_V cJ cI cZ bd E nf tf hn hs rt dn wm cr cd pf pl O ol rw rl wh th) H)) (vp_Si (fun r => r = tl_bi (tl_shA O ol x mI kI rI))) 0 0 (fun _ => False) := by
  refine Met.ofW (cc := b_M_shows) (maxL := 13) (ret := (some .boolean)) (by decide) rfl ?_
  intro p e s m args below meth c s₁ B hml hv
  obtain ⟨rfl, hE, hP⟩ := hv
  have hx := B.exec
  have hb := B.bytes
  have hr := B.returns
  have hw : ∀ w ∈ tl_ws, w.before ([.ref (bd 0), .long (x), .int (mI), .int (kI), .long (rI)] : List Value).toArray s = true := fun w h => atoms_spec (ws := k_M_shows :: tl_ws) B.pre w (List.mem_cons_of_mem _ h)
  have hown : s.vm.findClass R_M = some m.cls := findClass_of_methodNamed B.named
  have hlocks := B.notSynchronized
  have hl := lv_entry ([.ref (bd 0), .long (x), .int (mI), .int (kI), .long (rI)]) (n := 13) (Nat.le_of_ble_eq_true rfl)
  rw [lg_entry_eq]
  generalize (lg_sl ([.ref (bd 0), .long (x), .int (mI), .int (kI), .long (rI)]) ++ List.replicate (13 - (lg_sl ([.ref (bd 0), .long (x), .int (mI), .int (kI), .long (rI)])).length) Slot.unset).toArray = ls at hl ⊢
  have hl : lv_has ls 13 [(0, .ref (bd 0)), (1, .long (x)), (3, .int (mI)), (4, .int (kI)), (5, .long (rI))] := hl
  have hP : va_P D tl_cl (tl_V cJ cI cZ bd E nf tf hn hs rt dn wm cr cd pf pl O ol rw rl wh th) s.heap := hP
  have hI0 := hI
  obtain ⟨⟨hnf, hL, hh, hz, hsz, hpl, hpf, hp7, hol⟩, hsz0, htf⟩ := hI
  have hpub : tl_pub L sz ≤ 64 := Nat.le_trans (tl_pub_le hsz) hnf
  have hb0 := tl_num_le L 0
  have hb1 := tl_num_le L 1
  refine lv_iload hx hb d_M_shows_0 (lv_at hl 3 rfl) ?_
  refine lv_iconst (v := (nI (1))) hx hb d_M_shows_2 (by decide) ?_
  refine lv_icmp_lt (tgt := 23) hx hb d_M_shows_3 (by decide) (fun h3 => ?_) (fun h3 => ?_)
  · -- 3 t
    refine lv_iconst (v := (nI (0))) hx hb d_M_shows_23 (by decide) ?_
    exact W.zret hx hb hr rfl (fun t9 ht9 _ => ⟨(nI (0)), rfl, (tl_bi0 (by unfold tl_shA; first | (rw [if_pos h3]; done) | (rw [if_neg h3, if_pos h10]; done) | (rw [if_neg h3, if_neg h10, if_pos h14]; done) | rw [if_neg h3, if_neg h10, if_neg h14, if_neg h20])), ht9⟩) (fun q h => by cases h) d_M_shows_24
  · -- 3 f
    refine lv_iload hx hb d_M_shows_6 (lv_at hl 3 rfl) ?_
    refine lv_ldc (v := 1000000) hx hb hown (hw _ tl_m341) d_M_shows_8 ?_
    refine lv_topi (nm_r (e' := (nI (1000000))) (rfl) ?_)
    refine lv_icmp_gt (tgt := 23) hx hb d_M_shows_10 (by decide) (fun h10 => ?_) (fun h10 => ?_)
    · -- 10 t
      refine lv_iconst (v := (nI (0))) hx hb d_M_shows_23 (by decide) ?_
      exact W.zret hx hb hr rfl (fun t9 ht9 _ => ⟨(nI (0)), rfl, (tl_bi0 (by unfold tl_shA; first | (rw [if_pos h3]; done) | (rw [if_neg h3, if_pos h10]; done) | (rw [if_neg h3, if_neg h10, if_pos h14]; done) | rw [if_neg h3, if_neg h10, if_neg h14, if_neg h20])), ht9⟩) (fun q h => by cases h) d_M_shows_24
    · -- 10 f
      refine lv_iload_n hx hb d_M_shows_13 rfl (lv_at hl 2 rfl) ?_
      refine lv_if_lt (tgt := 23) hx hb d_M_shows_14 (by decide) (fun h14 => ?_) (fun h14 => ?_)
      · -- 14 t
        refine lv_iconst (v := (nI (0))) hx hb d_M_shows_23 (by decide) ?_
        exact W.zret hx hb hr rfl (fun t9 ht9 _ => ⟨(nI (0)), rfl, (tl_bi0 (by unfold tl_shA; first | (rw [if_pos h3]; done) | (rw [if_neg h3, if_pos h10]; done) | (rw [if_neg h3, if_neg h10, if_pos h14]; done) | rw [if_neg h3, if_neg h10, if_neg h14, if_neg h20])), ht9⟩) (fun q h => by cases h) d_M_shows_24
      · -- 14 f
        refine lv_iload_n hx hb d_M_shows_17 rfl (lv_at hl 2 rfl) ?_
        refine lv_iload hx hb d_M_shows_18 (lv_at hl 3 rfl) ?_
        refine lv_icmp_lt (tgt := 25) hx hb d_M_shows_20 (by decide) (fun h20 => ?_) (fun h20 => ?_)
        · -- 20 t
          obtain ⟨kk, hk1, hk2, rfl⟩ := tl_ge1 h3
          obtain ⟨mm, hm1, rfl⟩ := nI_of h14
          have g20 : mm < kk := (nI_ltI hm1 hk2).mp h20
          have g10 : kk ≤ 1000000 := Nat.le_of_not_lt (fun q => h10 ((nI_ltI (by decide) hk2).mpr q))
          have hsp : tl_shA O ol x (nI mm) (nI kk) rI = ((tl_show O ol 0 mm (kk - 1) (tl_leaf x)).1 && (tl_show O ol 0 mm (kk - 1) (tl_leaf x)).2 == rI) := by unfold tl_shA; rw [if_neg h3, if_neg h10, if_neg h14, if_pos h20, nI_clamp hm1, nI_clamp hk2]
          refine lv_iload_n hx hb d_M_shows_25 rfl (lv_at hl 2 rfl) ?_
          refine lv_istore (lv' := [(7, .int (nI (mm))), (0, .ref (bd 0)), (1, .long (x)), (3, .int (nI (mm))), (4, .int (nI (kk))), (5, .long (rI))]) hx hb d_M_shows_26 hl (by decide) rfl (fun ls hl => ?_)
          refine lv_iload hx hb d_M_shows_28 (lv_at hl 4 rfl) ?_
          refine lv_iconst (v := (nI (1))) hx hb d_M_shows_30 (by decide) ?_
          refine lv_isub hx hb d_M_shows_31 ?_
          refine lv_topi (nm_r (e' := (nI (kk - 1))) (pk_sub (by omega)) ?_)
          refine lv_istore (lv' := [(8, .int (nI (kk - 1))), (7, .int (nI (mm))), (0, .ref (bd 0)), (1, .long (x)), (3, .int (nI (mm))), (4, .int (nI (kk))), (5, .long (rI))]) hx hb d_M_shows_32 hl (by decide) rfl (fun ls hl => ?_)
          refine lv_lload_n hx hb d_M_shows_34 rfl (lv_at hl 3 rfl) ?_
          refine tl_goL (v := (tl_leaf (x))) (va_runS (As := [.long (x)]) (rest := []) ⟨hx, hb, hml, hown, hw⟩ (c_M_leaf l (x)) (⟨tl_cB hw tl_m244 tl_m3 tl_m242 dd_M_leaf rfl rfl ⟨Nat.le_of_ble_eq_true rfl, Nat.le_of_ble_eq_true rfl⟩, hw _ tl_m243⟩) (tl_pre0) rfl rfl hl.1 rfl (lv_room (Nat.le_of_ble_eq_true rfl)) d_M_shows_35 ⟨Nat.zero_le _, Nat.zero_le _⟩) ?_
          refine lv_lstore (lv' := [(9, .long (tl_leaf (x))), (8, .int (nI (kk - 1))), (7, .int (nI (mm))), (0, .ref (bd 0)), (1, .long (x)), (3, .int (nI (mm))), (4, .int (nI (kk))), (5, .long (rI))]) hx hb d_M_shows_38 hl (by decide) rfl (fun ls hl => ?_)
          refine lv_iconst (v := (nI (0))) hx hb d_M_shows_40 (by decide) ?_
          refine lv_istore (lv' := [(11, .int (nI (0))), (9, .long (tl_leaf (x))), (8, .int (nI (kk - 1))), (7, .int (nI (mm))), (0, .ref (bd 0)), (1, .long (x)), (3, .int (nI (mm))), (4, .int (nI (kk))), (5, .long (rI))]) hx hb d_M_shows_41 hl (by decide) rfl (fun ls hl => ?_)
          refine tl_loopR (fun n43 ls => ∃ (i : Nat) (f : Nat) (g : Nat) (rr : Int64), lv_has ls 13 [(11, .int (nI (i))), (7, .int (nI (f))), (8, .int (nI (g))), (9, .long (rr)), (5, .long (rI)), (0, .ref (bd 0))] ∧ (i ≤ ol) ∧ (n43 = ol - i) ∧ (f ≤ 1000000) ∧ (g ≤ 1000000) ∧ (tl_show O (ol - i) i f g rr = tl_show O ol 0 mm (kk - 1) (tl_leaf x))) (fun n43 ls hI ih43 => ?_) ol _ ⟨0, mm, kk - 1, tl_leaf x, lv_sub hl [0, 3, 2, 1, 8, 4] rfl, by omega, by omega, by omega, by omega, rfl⟩
          obtain ⟨i, f, g, rr, hl, hi, hm, hf, hg, hq⟩ := hI
          refine lv_iload hx hb d_M_shows_43 (lv_at hl 0 rfl) ?_
          refine lv_aload_n hx hb d_M_shows_45 rfl (lv_at hl 5 rfl) ?_
          refine va_get (ci := 2) (v := .int (nI (ol))) (C := R_M) (T := F_M) (N := 18) hx hb hw iw_M hown hE.1 hP 0 rfl rfl 12 (by decide) (hw _ tl_m212) (fun _ h9 => h9) rfl d_M_shows_46 ?_
          refine tl_cge (tgt := 144) (by omega) (by omega) hx hb d_M_shows_49 (by decide) (fun h49 => ?_) (fun h49 => ?_)
          · -- 49 t
            refine lv_iload hx hb d_M_shows_144 (lv_at hl 2 rfl) ?_
            refine tl_zne (tgt := 161) (by omega) hx hb d_M_shows_146 (by decide) (fun h146 => ?_) (fun h146 => ?_)
            · -- 146 t
              refine lv_iconst (v := (nI (0))) hx hb d_M_shows_161 (by decide) ?_
              exact W.zret hx hb hr rfl (fun t9 ht9 _ => ⟨(nI (0)), rfl, (by first | exact tl_bi1 (by rw [hsp, ← hq, show ol - i = 0 by omega, tl_show_0, h146, h154]; simp) | exact tl_bi0 (by rw [hsp, ← hq, show ol - i = 0 by omega, tl_show_0, h146]; simp [h154]) | exact tl_bi0 (by rw [hsp, ← hq, show ol - i = 0 by omega, tl_show_0]; simp [h146])), ht9⟩) (fun q h => by cases h) d_M_shows_162
            · -- 146 f
              refine lv_lload hx hb d_M_shows_149 (lv_at hl 3 rfl) ?_
              refine lv_lload hx hb d_M_shows_151 (lv_at hl 4 rfl) ?_
              refine tl_lne (tgt := 161) hx hb d_M_shows_153 d_M_shows_154 (by decide) (fun h154 => ?_) (fun h154 => ?_)
              · -- 154 t
                refine lv_iconst (v := (nI (0))) hx hb d_M_shows_161 (by decide) ?_
                exact W.zret hx hb hr rfl (fun t9 ht9 _ => ⟨(nI (0)), rfl, (by first | exact tl_bi1 (by rw [hsp, ← hq, show ol - i = 0 by omega, tl_show_0, h146, h154]; simp) | exact tl_bi0 (by rw [hsp, ← hq, show ol - i = 0 by omega, tl_show_0, h146]; simp [h154]) | exact tl_bi0 (by rw [hsp, ← hq, show ol - i = 0 by omega, tl_show_0]; simp [h146])), ht9⟩) (fun q h => by cases h) d_M_shows_162
              · -- 154 f
                refine lv_iconst (v := (nI (1))) hx hb d_M_shows_157 (by decide) ?_
                refine lv_goto (tgt := 162) hx hb d_M_shows_158 (by decide) ?_
                exact W.zret hx hb hr rfl (fun t9 ht9 _ => ⟨(nI (1)), rfl, (by first | exact tl_bi1 (by rw [hsp, ← hq, show ol - i = 0 by omega, tl_show_0, h146, h154]; simp) | exact tl_bi0 (by rw [hsp, ← hq, show ol - i = 0 by omega, tl_show_0, h146]; simp [h154]) | exact tl_bi0 (by rw [hsp, ← hq, show ol - i = 0 by omega, tl_show_0]; simp [h146])), ht9⟩) (fun q h => by cases h) d_M_shows_162
          · -- 49 f
            refine lv_iload hx hb d_M_shows_52 (lv_at hl 2 rfl) ?_
            refine tl_zne (tgt := 59) (by omega) hx hb d_M_shows_54 (by decide) (fun h54 => ?_) (fun h54 => ?_)
            · -- 54 t
              refine lv_iload hx hb d_M_shows_59 (lv_at hl 1 rfl) ?_
              refine lv_iconst (v := (nI (1))) hx hb d_M_shows_61 (by decide) ?_
              refine lv_iand hx hb d_M_shows_62 ?_
              refine lv_topi (nm_r (e' := (nI (f % 2))) (tl_and1 (by omega)) ?_)
              refine lv_iconst (v := (nI (1))) hx hb d_M_shows_63 (by decide) ?_
              refine tl_ceq (tgt := 74) (by omega) (by omega) hx hb d_M_shows_64 (by decide) (fun h64 => ?_) (fun h64 => ?_)
              · -- 64 t
                have hle := tl_left_t (g := g) (Or.inl h64)
                refine lv_aload_n hx hb d_M_shows_74 rfl (lv_at hl 5 rfl) ?_
                refine va_get (ci := 2) (v := .ref (bd 7)) (C := R_M) (T := F_M) (N := 18) hx hb hw iw_M hown hE.1 hP 0 rfl rfl 13 (by decide) (hw _ tl_m213) (fun _ h9 => h9) rfl d_M_shows_75 ?_
                refine lv_iload hx hb d_M_shows_78 (lv_at hl 0 rfl) ?_
                refine tl_lald (a := i) hx hb hE.1 hP 7 0 rfl rfl (by omega) (by decide) d_M_shows_80 ?_
                refine lv_lload hx hb d_M_shows_81 (lv_at hl 3 rfl) ?_
                refine tl_goL (v := (tl_node (O i) (rr))) (va_runS (As := [.long (O i), .long (rr)]) (rest := []) ⟨hx, hb, hml, hown, hw⟩ (c_M_node l (O i) (rr)) (⟨tl_cB hw tl_m256 tl_m3 tl_m254 dd_M_node rfl rfl ⟨Nat.le_of_ble_eq_true rfl, Nat.le_of_ble_eq_true rfl⟩, hw _ tl_m255⟩) (tl_pre0) rfl rfl hl.1 rfl (lv_room (Nat.le_of_ble_eq_true rfl)) d_M_shows_83 ⟨Nat.zero_le _, Nat.zero_le _⟩) ?_
                refine lv_lstore (lv' := [(9, .long (tl_node (O i) (rr))), (11, .int (nI (i))), (7, .int (nI (f))), (8, .int (nI (g))), (5, .long (rI)), (0, .ref (bd 0))]) hx hb d_M_shows_86 hl (by decide) rfl (fun ls hl => ?_)
                refine lv_iload hx hb d_M_shows_88 (lv_at hl 2 rfl) ?_
                refine tl_goI (v := (nI (tl_tz f))) (va_runS (As := [.int (nI (f))]) (rest := []) ⟨hx, hb, hml, hown, hw⟩ (c_M_halvings l f (by omega)) (⟨tl_cB hw tl_m344 tl_m3 tl_m342 dd_M_halvings rfl rfl ⟨Nat.le_of_ble_eq_true rfl, Nat.le_of_ble_eq_true rfl⟩, hw _ tl_m343⟩) (tl_pre0) rfl rfl hl.1 rfl (lv_room (Nat.le_of_ble_eq_true rfl)) d_M_shows_90 ⟨Nat.zero_le _, Nat.zero_le _⟩) ?_
                have htz := tl_tz_lt (x := f) (by omega)
                refine lv_istore (lv' := [(12, .int (nI (tl_tz f))), (9, .long (tl_node (O i) (rr))), (11, .int (nI (i))), (7, .int (nI (f))), (8, .int (nI (g))), (5, .long (rI)), (0, .ref (bd 0))]) hx hb d_M_shows_93 hl (by decide) rfl (fun ls hl => ?_)
                refine lv_iload hx hb d_M_shows_95 (lv_at hl 3 rfl) ?_
                refine lv_iload hx hb d_M_shows_97 (lv_at hl 0 rfl) ?_
                refine lv_ishr hx hb d_M_shows_99 ?_
                refine lv_topi (nm_r (e' := (nI (f / 2 ^ (tl_tz f)))) (tl_shr (by omega) (by omega)) ?_)
                refine lv_istore (lv' := [(7, .int (nI (f / 2 ^ (tl_tz f)))), (12, .int (nI (tl_tz f))), (9, .long (tl_node (O i) (rr))), (11, .int (nI (i))), (8, .int (nI (g))), (5, .long (rI)), (0, .ref (bd 0))]) hx hb d_M_shows_100 hl (by decide) rfl (fun ls hl => ?_)
                refine lv_iload hx hb d_M_shows_102 (lv_at hl 4 rfl) ?_
                refine lv_iload hx hb d_M_shows_104 (lv_at hl 1 rfl) ?_
                refine lv_ishr hx hb d_M_shows_106 ?_
                refine lv_topi (nm_r (e' := (nI (g / 2 ^ (tl_tz f)))) (tl_shr (by omega) (by omega)) ?_)
                refine lv_istore (lv' := [(8, .int (nI (g / 2 ^ (tl_tz f)))), (7, .int (nI (f / 2 ^ (tl_tz f)))), (12, .int (nI (tl_tz f))), (9, .long (tl_node (O i) (rr))), (11, .int (nI (i))), (5, .long (rI)), (0, .ref (bd 0))]) hx hb d_M_shows_107 hl (by decide) rfl (fun ls hl => ?_)
                refine lv_goto (tgt := 126) hx hb d_M_shows_109 (by decide) ?_
                refine lv_iload hx hb d_M_shows_126 (lv_at hl 1 rfl) ?_
                refine lv_iconst (v := (nI (1))) hx hb d_M_shows_128 (by decide) ?_
                refine lv_ishr hx hb d_M_shows_129 ?_
                refine lv_topi (nm_r (e' := (nI ((f / 2 ^ (tl_tz f)) / 2 ^ 1))) (tl_shr (Nat.lt_of_le_of_lt (tl_div_le _ _) (by omega)) (by omega)) ?_)
                refine lv_istore (lv' := [(7, .int (nI ((f / 2 ^ (tl_tz f)) / 2 ^ 1))), (8, .int (nI (g / 2 ^ (tl_tz f)))), (12, .int (nI (tl_tz f))), (9, .long (tl_node (O i) (rr))), (11, .int (nI (i))), (5, .long (rI)), (0, .ref (bd 0))]) hx hb d_M_shows_130 hl (by decide) rfl (fun ls hl => ?_)
                refine lv_iload hx hb d_M_shows_132 (lv_at hl 1 rfl) ?_
                refine lv_iconst (v := (nI (1))) hx hb d_M_shows_134 (by decide) ?_
                refine lv_ishr hx hb d_M_shows_135 ?_
                refine lv_topi (nm_r (e' := (nI ((g / 2 ^ (tl_tz f)) / 2 ^ 1))) (tl_shr (Nat.lt_of_le_of_lt (tl_div_le _ _) (by omega)) (by omega)) ?_)
                refine lv_istore (lv' := [(8, .int (nI ((g / 2 ^ (tl_tz f)) / 2 ^ 1))), (7, .int (nI ((f / 2 ^ (tl_tz f)) / 2 ^ 1))), (12, .int (nI (tl_tz f))), (9, .long (tl_node (O i) (rr))), (11, .int (nI (i))), (5, .long (rI)), (0, .ref (bd 0))]) hx hb d_M_shows_136 hl (by decide) rfl (fun ls hl => ?_)
                refine lv_iinc (k := 4) (v := (nI (i + 1))) (lv' := [(11, .int (nI (i + 1))), (8, .int (nI ((g / 2 ^ (tl_tz f)) / 2 ^ 1))), (7, .int (nI ((f / 2 ^ (tl_tz f)) / 2 ^ 1))), (12, .int (nI (tl_tz f))), (9, .long (tl_node (O i) (rr))), (5, .long (rI)), (0, .ref (bd 0))]) hx hb d_M_shows_138 hl rfl (by rw [lit1]; exact (nI_succ _).symm) (by decide) rfl (fun ls hl => ?_)
                refine lv_goto (tgt := 43) hx hb d_M_shows_141 (by decide) ?_
                exact ih43 (n43 - 1) _ (by omega) ⟨i + 1, ((f / 2 ^ (tl_tz f)) / 2 ^ 1), ((g / 2 ^ (tl_tz f)) / 2 ^ 1), (tl_node (O i) (rr)), lv_sub hl [0, 2, 1, 4, 5, 6] rfl, by omega, by omega, (Nat.le_trans (tl_div_le _ _) (Nat.le_trans (tl_div_le _ _) hf)), (Nat.le_trans (tl_div_le _ _) (Nat.le_trans (tl_div_le _ _) hg)), (by rw [← hq, show ol - i = (ol - (i + 1)) + 1 by omega, tl_show_t h54 hle, tl_lv_t hle, tl_dd f (tl_tz f), tl_dd g (tl_tz f)])⟩
              · -- 64 f
                refine lv_iload hx hb d_M_shows_67 (lv_at hl 1 rfl) ?_
                refine lv_iload hx hb d_M_shows_69 (lv_at hl 2 rfl) ?_
                refine tl_cne (tgt := 112) (by omega) (by omega) hx hb d_M_shows_71 (by decide) (fun h71 => ?_) (fun h71 => ?_)
                · -- 71 t
                  have hle := tl_left_f h64 h71
                  refine lv_lload hx hb d_M_shows_112 (lv_at hl 3 rfl) ?_
                  refine lv_aload_n hx hb d_M_shows_114 rfl (lv_at hl 5 rfl) ?_
                  refine va_get (ci := 2) (v := .ref (bd 7)) (C := R_M) (T := F_M) (N := 18) hx hb hw iw_M hown hE.1 hP 0 rfl rfl 13 (by decide) (hw _ tl_m213) (fun _ h9 => h9) rfl d_M_shows_115 ?_
                  refine lv_iload hx hb d_M_shows_118 (lv_at hl 0 rfl) ?_
                  refine tl_lald (a := i) hx hb hE.1 hP 7 0 rfl rfl (by omega) (by decide) d_M_shows_120 ?_
                  refine tl_goL (v := (tl_node (rr) (O i))) (va_runS (As := [.long (rr), .long (O i)]) (rest := []) ⟨hx, hb, hml, hown, hw⟩ (c_M_node l (rr) (O i)) (⟨tl_cB hw tl_m256 tl_m3 tl_m254 dd_M_node rfl rfl ⟨Nat.le_of_ble_eq_true rfl, Nat.le_of_ble_eq_true rfl⟩, hw _ tl_m255⟩) (tl_pre0) rfl rfl hl.1 rfl (lv_room (Nat.le_of_ble_eq_true rfl)) d_M_shows_121 ⟨Nat.zero_le _, Nat.zero_le _⟩) ?_
                  refine lv_lstore (lv' := [(9, .long (tl_node (rr) (O i))), (11, .int (nI (i))), (7, .int (nI (f))), (8, .int (nI (g))), (5, .long (rI)), (0, .ref (bd 0))]) hx hb d_M_shows_124 hl (by decide) rfl (fun ls hl => ?_)
                  refine lv_iload hx hb d_M_shows_126 (lv_at hl 2 rfl) ?_
                  refine lv_iconst (v := (nI (1))) hx hb d_M_shows_128 (by decide) ?_
                  refine lv_ishr hx hb d_M_shows_129 ?_
                  refine lv_topi (nm_r (e' := (nI (f / 2 ^ 1))) (tl_shr (Nat.lt_of_le_of_lt (Nat.le_refl _) (by omega)) (by omega)) ?_)
                  refine lv_istore (lv' := [(7, .int (nI (f / 2 ^ 1))), (9, .long (tl_node (rr) (O i))), (11, .int (nI (i))), (8, .int (nI (g))), (5, .long (rI)), (0, .ref (bd 0))]) hx hb d_M_shows_130 hl (by decide) rfl (fun ls hl => ?_)
                  refine lv_iload hx hb d_M_shows_132 (lv_at hl 3 rfl) ?_
                  refine lv_iconst (v := (nI (1))) hx hb d_M_shows_134 (by decide) ?_
                  refine lv_ishr hx hb d_M_shows_135 ?_
                  refine lv_topi (nm_r (e' := (nI (g / 2 ^ 1))) (tl_shr (Nat.lt_of_le_of_lt (Nat.le_refl _) (by omega)) (by omega)) ?_)
                  refine lv_istore (lv' := [(8, .int (nI (g / 2 ^ 1))), (7, .int (nI (f / 2 ^ 1))), (9, .long (tl_node (rr) (O i))), (11, .int (nI (i))), (5, .long (rI)), (0, .ref (bd 0))]) hx hb d_M_shows_136 hl (by decide) rfl (fun ls hl => ?_)
                  refine lv_iinc (k := 3) (v := (nI (i + 1))) (lv' := [(11, .int (nI (i + 1))), (8, .int (nI (g / 2 ^ 1))), (7, .int (nI (f / 2 ^ 1))), (9, .long (tl_node (rr) (O i))), (5, .long (rI)), (0, .ref (bd 0))]) hx hb d_M_shows_138 hl rfl (by rw [lit1]; exact (nI_succ _).symm) (by decide) rfl (fun ls hl => ?_)
                  refine lv_goto (tgt := 43) hx hb d_M_shows_141 (by decide) ?_
                  exact ih43 (n43 - 1) _ (by omega) ⟨i + 1, (f / 2 ^ 1), (g / 2 ^ 1), (tl_node (rr) (O i)), lv_sub hl [0, 2, 1, 3, 4, 5] rfl, by omega, by omega, (Nat.le_trans (tl_div_le _ _) hf), (Nat.le_trans (tl_div_le _ _) hg), (by rw [← hq, show ol - i = (ol - (i + 1)) + 1 by omega, tl_show_f h54 hle, tl_lv_f hle])⟩
                · -- 71 f
                  have hle := tl_left_t (f := f) (Or.inr h71)
                  refine lv_aload_n hx hb d_M_shows_74 rfl (lv_at hl 5 rfl) ?_
                  refine va_get (ci := 2) (v := .ref (bd 7)) (C := R_M) (T := F_M) (N := 18) hx hb hw iw_M hown hE.1 hP 0 rfl rfl 13 (by decide) (hw _ tl_m213) (fun _ h9 => h9) rfl d_M_shows_75 ?_
                  refine lv_iload hx hb d_M_shows_78 (lv_at hl 0 rfl) ?_
                  refine tl_lald (a := i) hx hb hE.1 hP 7 0 rfl rfl (by omega) (by decide) d_M_shows_80 ?_
                  refine lv_lload hx hb d_M_shows_81 (lv_at hl 3 rfl) ?_
                  refine tl_goL (v := (tl_node (O i) (rr))) (va_runS (As := [.long (O i), .long (rr)]) (rest := []) ⟨hx, hb, hml, hown, hw⟩ (c_M_node l (O i) (rr)) (⟨tl_cB hw tl_m256 tl_m3 tl_m254 dd_M_node rfl rfl ⟨Nat.le_of_ble_eq_true rfl, Nat.le_of_ble_eq_true rfl⟩, hw _ tl_m255⟩) (tl_pre0) rfl rfl hl.1 rfl (lv_room (Nat.le_of_ble_eq_true rfl)) d_M_shows_83 ⟨Nat.zero_le _, Nat.zero_le _⟩) ?_
                  refine lv_lstore (lv' := [(9, .long (tl_node (O i) (rr))), (11, .int (nI (i))), (7, .int (nI (f))), (8, .int (nI (g))), (5, .long (rI)), (0, .ref (bd 0))]) hx hb d_M_shows_86 hl (by decide) rfl (fun ls hl => ?_)
                  refine lv_iload hx hb d_M_shows_88 (lv_at hl 2 rfl) ?_
                  refine tl_goI (v := (nI (tl_tz f))) (va_runS (As := [.int (nI (f))]) (rest := []) ⟨hx, hb, hml, hown, hw⟩ (c_M_halvings l f (by omega)) (⟨tl_cB hw tl_m344 tl_m3 tl_m342 dd_M_halvings rfl rfl ⟨Nat.le_of_ble_eq_true rfl, Nat.le_of_ble_eq_true rfl⟩, hw _ tl_m343⟩) (tl_pre0) rfl rfl hl.1 rfl (lv_room (Nat.le_of_ble_eq_true rfl)) d_M_shows_90 ⟨Nat.zero_le _, Nat.zero_le _⟩) ?_
                  have htz := tl_tz_lt (x := f) (by omega)
                  refine lv_istore (lv' := [(12, .int (nI (tl_tz f))), (9, .long (tl_node (O i) (rr))), (11, .int (nI (i))), (7, .int (nI (f))), (8, .int (nI (g))), (5, .long (rI)), (0, .ref (bd 0))]) hx hb d_M_shows_93 hl (by decide) rfl (fun ls hl => ?_)
                  refine lv_iload hx hb d_M_shows_95 (lv_at hl 3 rfl) ?_
                  refine lv_iload hx hb d_M_shows_97 (lv_at hl 0 rfl) ?_
                  refine lv_ishr hx hb d_M_shows_99 ?_
                  refine lv_topi (nm_r (e' := (nI (f / 2 ^ (tl_tz f)))) (tl_shr (by omega) (by omega)) ?_)
                  refine lv_istore (lv' := [(7, .int (nI (f / 2 ^ (tl_tz f)))), (12, .int (nI (tl_tz f))), (9, .long (tl_node (O i) (rr))), (11, .int (nI (i))), (8, .int (nI (g))), (5, .long (rI)), (0, .ref (bd 0))]) hx hb d_M_shows_100 hl (by decide) rfl (fun ls hl => ?_)
                  refine lv_iload hx hb d_M_shows_102 (lv_at hl 4 rfl) ?_
                  refine lv_iload hx hb d_M_shows_104 (lv_at hl 1 rfl) ?_
                  refine lv_ishr hx hb d_M_shows_106 ?_
                  refine lv_topi (nm_r (e' := (nI (g / 2 ^ (tl_tz f)))) (tl_shr (by omega) (by omega)) ?_)
                  refine lv_istore (lv' := [(8, .int (nI (g / 2 ^ (tl_tz f)))), (7, .int (nI (f / 2 ^ (tl_tz f)))), (12, .int (nI (tl_tz f))), (9, .long (tl_node (O i) (rr))), (11, .int (nI (i))), (5, .long (rI)), (0, .ref (bd 0))]) hx hb d_M_shows_107 hl (by decide) rfl (fun ls hl => ?_)
                  refine lv_goto (tgt := 126) hx hb d_M_shows_109 (by decide) ?_
                  refine lv_iload hx hb d_M_shows_126 (lv_at hl 1 rfl) ?_
                  refine lv_iconst (v := (nI (1))) hx hb d_M_shows_128 (by decide) ?_
                  refine lv_ishr hx hb d_M_shows_129 ?_
                  refine lv_topi (nm_r (e' := (nI ((f / 2 ^ (tl_tz f)) / 2 ^ 1))) (tl_shr (Nat.lt_of_le_of_lt (tl_div_le _ _) (by omega)) (by omega)) ?_)
                  refine lv_istore (lv' := [(7, .int (nI ((f / 2 ^ (tl_tz f)) / 2 ^ 1))), (8, .int (nI (g / 2 ^ (tl_tz f)))), (12, .int (nI (tl_tz f))), (9, .long (tl_node (O i) (rr))), (11, .int (nI (i))), (5, .long (rI)), (0, .ref (bd 0))]) hx hb d_M_shows_130 hl (by decide) rfl (fun ls hl => ?_)
                  refine lv_iload hx hb d_M_shows_132 (lv_at hl 1 rfl) ?_
                  refine lv_iconst (v := (nI (1))) hx hb d_M_shows_134 (by decide) ?_
                  refine lv_ishr hx hb d_M_shows_135 ?_
                  refine lv_topi (nm_r (e' := (nI ((g / 2 ^ (tl_tz f)) / 2 ^ 1))) (tl_shr (Nat.lt_of_le_of_lt (tl_div_le _ _) (by omega)) (by omega)) ?_)
                  refine lv_istore (lv' := [(8, .int (nI ((g / 2 ^ (tl_tz f)) / 2 ^ 1))), (7, .int (nI ((f / 2 ^ (tl_tz f)) / 2 ^ 1))), (12, .int (nI (tl_tz f))), (9, .long (tl_node (O i) (rr))), (11, .int (nI (i))), (5, .long (rI)), (0, .ref (bd 0))]) hx hb d_M_shows_136 hl (by decide) rfl (fun ls hl => ?_)
                  refine lv_iinc (k := 4) (v := (nI (i + 1))) (lv' := [(11, .int (nI (i + 1))), (8, .int (nI ((g / 2 ^ (tl_tz f)) / 2 ^ 1))), (7, .int (nI ((f / 2 ^ (tl_tz f)) / 2 ^ 1))), (12, .int (nI (tl_tz f))), (9, .long (tl_node (O i) (rr))), (5, .long (rI)), (0, .ref (bd 0))]) hx hb d_M_shows_138 hl rfl (by rw [lit1]; exact (nI_succ _).symm) (by decide) rfl (fun ls hl => ?_)
                  refine lv_goto (tgt := 43) hx hb d_M_shows_141 (by decide) ?_
                  exact ih43 (n43 - 1) _ (by omega) ⟨i + 1, ((f / 2 ^ (tl_tz f)) / 2 ^ 1), ((g / 2 ^ (tl_tz f)) / 2 ^ 1), (tl_node (O i) (rr)), lv_sub hl [0, 2, 1, 4, 5, 6] rfl, by omega, by omega, (Nat.le_trans (tl_div_le _ _) (Nat.le_trans (tl_div_le _ _) hf)), (Nat.le_trans (tl_div_le _ _) (Nat.le_trans (tl_div_le _ _) hg)), (by rw [← hq, show ol - i = (ol - (i + 1)) + 1 by omega, tl_show_t h54 hle, tl_lv_t hle, tl_dd f (tl_tz f), tl_dd g (tl_tz f)])⟩
            · -- 54 f
              refine lv_iconst (v := (nI (0))) hx hb d_M_shows_57 (by decide) ?_
              exact W.zret hx hb hr rfl (fun t9 ht9 _ => ⟨(nI (0)), rfl, (tl_bi0 (by rw [hsp, ← hq, show ol - i = (ol - (i + 1)) + 1 by omega, tl_show_no h54]; rfl)), ht9⟩) (fun q h => by cases h) d_M_shows_58
        · -- 20 f
          refine lv_iconst (v := (nI (0))) hx hb d_M_shows_23 (by decide) ?_
          exact W.zret hx hb hr rfl (fun t9 ht9 _ => ⟨(nI (0)), rfl, (tl_bi0 (by unfold tl_shA; first | (rw [if_pos h3]; done) | (rw [if_neg h3, if_pos h10]; done) | (rw [if_neg h3, if_neg h10, if_pos h14]; done) | rw [if_neg h3, if_neg h10, if_neg h14, if_neg h20])), ht9⟩) (fun q h => by cases h) d_M_shows_24

set_option maxHeartbeats 4000000 in
set_option maxRecDepth 100000 in
theorem c_M_buildRow_t (l : Launch) (D : va_G) (cJ cI cG cZ : ClassId) (bd : Nat → Nat) (E : Nat → Int64) (nf : Nat) (tf : Nat → Int64) (hn hs : Nat → Int32) (rt : Nat → Int64) (dn : Bool) (wm cr : Int32) (cd : Bool) (pf : Nat → Int64) (pl : Nat) (O : Nat → Int64) (ol : Nat) (rw : Nat → Int64) (rl : Nat) (wh : Nat → Int64) (th : Nat → Int32) (mI : Int32) (x : Int64) (hap : tl_ap bd 11) (hol : ol ≤ 8) (hp2 : tl_p2 mI = true) : Met l y_M_buildRow (k_M_buildRow :: tl_ws) { frames := 0, cells := 0, slots := 0, locals := 0 } (tl_Pc D cJ cI cG cZ [.ref (bd 0), .int (mI), .long (x)] (fun H => va_P D tl_cl (tl_V cJ cI cZ bd E nf tf hn hs rt dn wm cr cd pf pl O ol rw rl wh th) H)) (tl_Qv (fun H => ∃ rw9 : Nat → Int64, (∀ j, j < ol → rw9 (j + 1) = O j) ∧ rw9 0 = x ∧ va_P D tl_cl (tl_V cJ cI cZ bd E nf tf hn hs rt dn wm cr cd pf pl O ol rw9 (1 + ol) wh th) H) (tl_in bd 11)) 0 0 (tl_in bd 11) := by
  refine Met.ofW (cc := b_M_buildRow) (maxL := 5) (ret := none) (by decide) rfl ?_
  intro p e s m args below meth c s₁ B hml hv
  obtain ⟨rfl, hE, hP⟩ := hv
  have hx := B.exec
  have hb := B.bytes
  have hr := B.returns
  have hw : ∀ w ∈ tl_ws, w.before ([.ref (bd 0), .int (mI), .long (x)] : List Value).toArray s = true := fun w h => atoms_spec (ws := k_M_buildRow :: tl_ws) B.pre w (List.mem_cons_of_mem _ h)
  have hown : s.vm.findClass R_M = some m.cls := findClass_of_methodNamed B.named
  have hlocks := B.notSynchronized
  have hl := lv_entry ([.ref (bd 0), .int (mI), .long (x)]) (n := 5) (Nat.le_of_ble_eq_true rfl)
  rw [lg_entry_eq]
  generalize (lg_sl ([.ref (bd 0), .int (mI), .long (x)]) ++ List.replicate (5 - (lg_sl ([.ref (bd 0), .int (mI), .long (x)])).length) Slot.unset).toArray = ls at hl ⊢
  have hl : lv_has ls 5 [(0, .ref (bd 0)), (1, .int (mI)), (2, .long (x))] := hl
  have hP : va_P D tl_cl (tl_V cJ cI cZ bd E nf tf hn hs rt dn wm cr cd pf pl O ol rw rl wh th) s.heap := hP
  have hS : va_S (tl_in bd 11) s.heap s.heap [] := va_S.rf
  refine lv_aload_n hx hb d_M_buildRow_0 rfl (lv_at hl 0 rfl) ?_
  refine lv_iconst (v := (nI (0))) hx hb d_M_buildRow_1 (by decide) ?_
  refine va_put (ci := 2) (v := .int (nI (0))) (ty := .int) (C := R_M) (T := F_M) (N := 18) hx hb hw iw_M ft_M ft_M_ok n_M hown hE.1 hP (tl_DV hap) hS 0 rfl rfl 14 (by decide) (hw _ tl_m214) (fun _ h9 => h9) rfl (by decide +kernel) rfl rfl (Nat.le_of_ble_eq_true rfl) d_M_buildRow_2 (fun H locs hP _ hS => ?_)
  have hP : va_P D tl_cl (tl_V cJ cI cZ bd E nf tf hn hs rt dn wm cr cd pf pl O ol rw 0 wh th) H := hP
  refine lv_iload_n hx hb d_M_buildRow_5 rfl (lv_at hl 1 rfl) ?_
  refine lv_iload_n hx hb d_M_buildRow_6 rfl (lv_at hl 1 rfl) ?_
  refine lv_iconst (v := (nI (1))) hx hb d_M_buildRow_7 (by decide) ?_
  refine lv_isub hx hb d_M_buildRow_8 ?_
  refine lv_iand hx hb d_M_buildRow_9 ?_
  refine lv_if_ne (tgt := 25) hx hb d_M_buildRow_10 (by decide) (fun h10 => ?_) (fun h10 => ?_)
  · -- 10 t
    exact absurd (tl_p2_t hp2) h10
  · -- 10 f
    refine lv_aload_n hx hb d_M_buildRow_13 rfl (lv_at hl 0 rfl) ?_
    refine va_get (ci := 2) (v := .ref (bd 8)) (C := R_M) (T := F_M) (N := 18) hx hb hw iw_M hown hE.1 hP 0 rfl rfl 15 (by decide) (hw _ tl_m215) (fun _ h9 => h9) rfl d_M_buildRow_14 ?_
    refine lv_iconst (v := (nI (0))) hx hb d_M_buildRow_17 (by decide) ?_
    refine lv_lload_n hx hb d_M_buildRow_18 rfl (lv_at hl 2 rfl) ?_
    refine tl_last (a := 0) hx hb hE.1 hP (tl_DV hap) hS 8 0 rfl rfl (by omega) (by decide) d_M_buildRow_19 (fun H locs hP hS => ?_)
    have hP : va_P D tl_cl (tl_V cJ cI cZ bd E nf tf hn hs rt dn wm cr cd pf pl O ol (vp_updL rw 0 (x)) 0 wh th) H := hP
    refine lv_aload_n hx hb d_M_buildRow_20 rfl (lv_at hl 0 rfl) ?_
    refine lv_iconst (v := (nI (1))) hx hb d_M_buildRow_21 (by decide) ?_
    refine va_put (ci := 2) (v := .int (nI (1))) (ty := .int) (C := R_M) (T := F_M) (N := 18) hx hb hw iw_M ft_M ft_M_ok n_M hown hE.1 hP (tl_DV hap) hS 0 rfl rfl 14 (by decide) (hw _ tl_m214) (fun _ h9 => h9) rfl (by decide +kernel) rfl rfl (Nat.le_of_ble_eq_true rfl) d_M_buildRow_22 (fun H locs hP _ hS => ?_)
    have hP : va_P D tl_cl (tl_V cJ cI cZ bd E nf tf hn hs rt dn wm cr cd pf pl O ol (vp_updL rw 0 (x)) 1 wh th) H := hP
    refine lv_iconst (v := (nI (0))) hx hb d_M_buildRow_25 (by decide) ?_
    refine lv_istore (lv' := [(4, .int (nI (0))), (0, .ref (bd 0)), (1, .int (mI)), (2, .long (x))]) hx hb d_M_buildRow_26 hl (by decide) rfl (fun ls hl => ?_)
    refine tl_loopW (fun n28 ls H locs => ∃ (i : Nat) (rw1 : Nat → Int64), lv_has ls 5 [(4, .int (nI (i))), (0, .ref (bd 0))] ∧ va_P D tl_cl (tl_V cJ cI cZ bd E nf tf hn hs rt dn wm cr cd pf pl O ol rw1 (1 + i) wh th) H ∧ va_S (tl_in bd 11) s.heap H locs ∧ (i ≤ ol) ∧ (n28 = ol - i) ∧ (∀ j, j < i → rw1 (j + 1) = O j) ∧ (rw1 0 = x)) (fun n28 ls H locs hI ih28 => ?_) ol _ _ _ ⟨0, (vp_updL rw 0 (x)), lv_sub hl [0, 1] rfl, hP, hS, by omega, by omega, fun j hj => absurd hj (Nat.not_lt_zero _), pk_uLs⟩
    obtain ⟨i, rw1, hl, hP, hS, hi, hm, hro, hr0⟩ := hI
    refine lv_iload hx hb d_M_buildRow_28 (lv_at hl 0 rfl) ?_
    refine lv_aload_n hx hb d_M_buildRow_30 rfl (lv_at hl 1 rfl) ?_
    refine va_get (ci := 2) (v := .int (nI (ol))) (C := R_M) (T := F_M) (N := 18) hx hb hw iw_M hown hE.1 hP 0 rfl rfl 12 (by decide) (hw _ tl_m212) (fun _ h9 => h9) rfl d_M_buildRow_31 ?_
    refine tl_cge (tgt := 69) (by omega) (by omega) hx hb d_M_buildRow_34 (by decide) (fun h34 => ?_) (fun h34 => ?_)
    · -- 34 t
      exact W.vret hx hb hr (fun t9 ht9 _ => tl_endV hS (by rw [show i = ol by omega] at hP hro; exact ⟨rw1, hro, hr0, hP⟩) ht9) hS.2.2 d_M_buildRow_69
    · -- 34 f
      refine lv_aload_n hx hb d_M_buildRow_37 rfl (lv_at hl 1 rfl) ?_
      refine va_get (ci := 2) (v := .ref (bd 8)) (C := R_M) (T := F_M) (N := 18) hx hb hw iw_M hown hE.1 hP 0 rfl rfl 15 (by decide) (hw _ tl_m215) (fun _ h9 => h9) rfl d_M_buildRow_38 ?_
      refine lv_aload_n hx hb d_M_buildRow_41 rfl (lv_at hl 1 rfl) ?_
      refine va_get (ci := 2) (v := .int (nI (1 + i))) (C := R_M) (T := F_M) (N := 18) hx hb hw iw_M hown hE.1 hP 0 rfl rfl 14 (by decide) (hw _ tl_m214) (fun _ h9 => h9) rfl d_M_buildRow_42 ?_
      refine lv_aload_n hx hb d_M_buildRow_45 rfl (lv_at hl 1 rfl) ?_
      refine va_get (ci := 2) (v := .ref (bd 7)) (C := R_M) (T := F_M) (N := 18) hx hb hw iw_M hown hE.1 hP 0 rfl rfl 13 (by decide) (hw _ tl_m213) (fun _ h9 => h9) rfl d_M_buildRow_46 ?_
      refine lv_iload hx hb d_M_buildRow_49 (lv_at hl 0 rfl) ?_
      refine tl_lald (a := i) hx hb hE.1 hP 7 0 rfl rfl (by omega) (by decide) d_M_buildRow_51 ?_
      refine tl_last (a := (1 + i)) hx hb hE.1 hP (tl_DV hap) hS 8 0 rfl rfl (by omega) (by decide) d_M_buildRow_52 (fun H locs hP hS => ?_)
      have hP : va_P D tl_cl (tl_V cJ cI cZ bd E nf tf hn hs rt dn wm cr cd pf pl O ol (vp_updL rw1 (1 + i) (O i)) (1 + i) wh th) H := hP
      refine lv_aload_n hx hb d_M_buildRow_53 rfl (lv_at hl 1 rfl) ?_
      refine lv_aload_n hx hb d_M_buildRow_54 rfl (lv_at hl 1 rfl) ?_
      refine va_get (ci := 2) (v := .int (nI (1 + i))) (C := R_M) (T := F_M) (N := 18) hx hb hw iw_M hown hE.1 hP 0 rfl rfl 14 (by decide) (hw _ tl_m214) (fun _ h9 => h9) rfl d_M_buildRow_55 ?_
      refine lv_iconst (v := (nI (1))) hx hb d_M_buildRow_58 (by decide) ?_
      refine lv_iadd hx hb d_M_buildRow_59 ?_
      refine lv_topi (nm_r (e' := (nI ((1 + i) + 1))) (nI_add _ _) ?_)
      refine va_put (ci := 2) (v := .int (nI ((1 + i) + 1))) (ty := .int) (C := R_M) (T := F_M) (N := 18) hx hb hw iw_M ft_M ft_M_ok n_M hown hE.1 hP (tl_DV hap) hS 0 rfl rfl 14 (by decide) (hw _ tl_m214) (fun _ h9 => h9) rfl (by decide +kernel) rfl rfl (Nat.le_of_ble_eq_true rfl) d_M_buildRow_60 (fun H locs hP _ hS => ?_)
      have hP : va_P D tl_cl (tl_V cJ cI cZ bd E nf tf hn hs rt dn wm cr cd pf pl O ol (vp_updL rw1 (1 + i) (O i)) ((1 + i) + 1) wh th) H := hP
      refine lv_iinc (k := 0) (v := (nI (i + 1))) (lv' := [(4, .int (nI (i + 1))), (0, .ref (bd 0))]) hx hb d_M_buildRow_63 hl rfl (by rw [lit1]; exact (nI_succ _).symm) (by decide) rfl (fun ls hl => ?_)
      refine lv_goto (tgt := 28) hx hb d_M_buildRow_66 (by decide) ?_
      exact ih28 (n28 - 1) _ _ _ (by omega) ⟨i + 1, (vp_updL rw1 (1 + i) (O i)), lv_sub hl [0, 1] rfl, hP, hS, by omega, by omega, (fun j hj => by
            by_cases e9 : j = i
            · rw [e9, Nat.add_comm i 1, pk_uLs]
            · rw [pk_uLn (by omega)]; exact hro j (by omega)), (by rw [pk_uLn (by omega)]; exact hr0)⟩

set_option maxHeartbeats 4000000 in
set_option maxRecDepth 100000 in
theorem c_M_buildRow_f (l : Launch) (D : va_G) (cJ cI cG cZ : ClassId) (bd : Nat → Nat) (E : Nat → Int64) (nf : Nat) (tf : Nat → Int64) (hn hs : Nat → Int32) (rt : Nat → Int64) (dn : Bool) (wm cr : Int32) (cd : Bool) (pf : Nat → Int64) (pl : Nat) (O : Nat → Int64) (ol : Nat) (rw : Nat → Int64) (rl : Nat) (wh : Nat → Int64) (th : Nat → Int32) (mI : Int32) (x : Int64) (hap : tl_ap bd 11) (hol : ol ≤ 8) (hp2 : tl_p2 mI = false) : Met l y_M_buildRow (k_M_buildRow :: tl_ws) { frames := 0, cells := 0, slots := 0, locals := 0 } (tl_Pc D cJ cI cG cZ [.ref (bd 0), .int (mI), .long (x)] (fun H => va_P D tl_cl (tl_V cJ cI cZ bd E nf tf hn hs rt dn wm cr cd pf pl O ol rw rl wh th) H)) (tl_Qv (fun H => ∃ rw9 : Nat → Int64, (∀ j, j < ol → rw9 (j + 0) = O j) ∧ va_P D tl_cl (tl_V cJ cI cZ bd E nf tf hn hs rt dn wm cr cd pf pl O ol rw9 (0 + ol) wh th) H) (tl_in bd 11)) 0 0 (tl_in bd 11) := by
  refine Met.ofW (cc := b_M_buildRow) (maxL := 5) (ret := none) (by decide) rfl ?_
  intro p e s m args below meth c s₁ B hml hv
  obtain ⟨rfl, hE, hP⟩ := hv
  have hx := B.exec
  have hb := B.bytes
  have hr := B.returns
  have hw : ∀ w ∈ tl_ws, w.before ([.ref (bd 0), .int (mI), .long (x)] : List Value).toArray s = true := fun w h => atoms_spec (ws := k_M_buildRow :: tl_ws) B.pre w (List.mem_cons_of_mem _ h)
  have hown : s.vm.findClass R_M = some m.cls := findClass_of_methodNamed B.named
  have hlocks := B.notSynchronized
  have hl := lv_entry ([.ref (bd 0), .int (mI), .long (x)]) (n := 5) (Nat.le_of_ble_eq_true rfl)
  rw [lg_entry_eq]
  generalize (lg_sl ([.ref (bd 0), .int (mI), .long (x)]) ++ List.replicate (5 - (lg_sl ([.ref (bd 0), .int (mI), .long (x)])).length) Slot.unset).toArray = ls at hl ⊢
  have hl : lv_has ls 5 [(0, .ref (bd 0)), (1, .int (mI)), (2, .long (x))] := hl
  have hP : va_P D tl_cl (tl_V cJ cI cZ bd E nf tf hn hs rt dn wm cr cd pf pl O ol rw rl wh th) s.heap := hP
  have hS : va_S (tl_in bd 11) s.heap s.heap [] := va_S.rf
  refine lv_aload_n hx hb d_M_buildRow_0 rfl (lv_at hl 0 rfl) ?_
  refine lv_iconst (v := (nI (0))) hx hb d_M_buildRow_1 (by decide) ?_
  refine va_put (ci := 2) (v := .int (nI (0))) (ty := .int) (C := R_M) (T := F_M) (N := 18) hx hb hw iw_M ft_M ft_M_ok n_M hown hE.1 hP (tl_DV hap) hS 0 rfl rfl 14 (by decide) (hw _ tl_m214) (fun _ h9 => h9) rfl (by decide +kernel) rfl rfl (Nat.le_of_ble_eq_true rfl) d_M_buildRow_2 (fun H locs hP _ hS => ?_)
  have hP : va_P D tl_cl (tl_V cJ cI cZ bd E nf tf hn hs rt dn wm cr cd pf pl O ol rw 0 wh th) H := hP
  refine lv_iload_n hx hb d_M_buildRow_5 rfl (lv_at hl 1 rfl) ?_
  refine lv_iload_n hx hb d_M_buildRow_6 rfl (lv_at hl 1 rfl) ?_
  refine lv_iconst (v := (nI (1))) hx hb d_M_buildRow_7 (by decide) ?_
  refine lv_isub hx hb d_M_buildRow_8 ?_
  refine lv_iand hx hb d_M_buildRow_9 ?_
  refine lv_if_ne (tgt := 25) hx hb d_M_buildRow_10 (by decide) (fun h10 => ?_) (fun h10 => ?_)
  · -- 10 t
    refine lv_iconst (v := (nI (0))) hx hb d_M_buildRow_25 (by decide) ?_
    refine lv_istore (lv' := [(4, .int (nI (0))), (0, .ref (bd 0)), (1, .int (mI)), (2, .long (x))]) hx hb d_M_buildRow_26 hl (by decide) rfl (fun ls hl => ?_)
    refine tl_loopW (fun n28 ls H locs => ∃ (i : Nat) (rw1 : Nat → Int64), lv_has ls 5 [(4, .int (nI (i))), (0, .ref (bd 0))] ∧ va_P D tl_cl (tl_V cJ cI cZ bd E nf tf hn hs rt dn wm cr cd pf pl O ol rw1 (0 + i) wh th) H ∧ va_S (tl_in bd 11) s.heap H locs ∧ (i ≤ ol) ∧ (n28 = ol - i) ∧ (∀ j, j < i → rw1 (j + 0) = O j)) (fun n28 ls H locs hI ih28 => ?_) ol _ _ _ ⟨0, (rw), lv_sub hl [0, 1] rfl, hP, hS, by omega, by omega, fun j hj => absurd hj (Nat.not_lt_zero _)⟩
    obtain ⟨i, rw1, hl, hP, hS, hi, hm, hro⟩ := hI
    refine lv_iload hx hb d_M_buildRow_28 (lv_at hl 0 rfl) ?_
    refine lv_aload_n hx hb d_M_buildRow_30 rfl (lv_at hl 1 rfl) ?_
    refine va_get (ci := 2) (v := .int (nI (ol))) (C := R_M) (T := F_M) (N := 18) hx hb hw iw_M hown hE.1 hP 0 rfl rfl 12 (by decide) (hw _ tl_m212) (fun _ h9 => h9) rfl d_M_buildRow_31 ?_
    refine tl_cge (tgt := 69) (by omega) (by omega) hx hb d_M_buildRow_34 (by decide) (fun h34 => ?_) (fun h34 => ?_)
    · -- 34 t
      exact W.vret hx hb hr (fun t9 ht9 _ => tl_endV hS (by rw [show i = ol by omega] at hP hro; exact ⟨rw1, hro, hP⟩) ht9) hS.2.2 d_M_buildRow_69
    · -- 34 f
      refine lv_aload_n hx hb d_M_buildRow_37 rfl (lv_at hl 1 rfl) ?_
      refine va_get (ci := 2) (v := .ref (bd 8)) (C := R_M) (T := F_M) (N := 18) hx hb hw iw_M hown hE.1 hP 0 rfl rfl 15 (by decide) (hw _ tl_m215) (fun _ h9 => h9) rfl d_M_buildRow_38 ?_
      refine lv_aload_n hx hb d_M_buildRow_41 rfl (lv_at hl 1 rfl) ?_
      refine va_get (ci := 2) (v := .int (nI (0 + i))) (C := R_M) (T := F_M) (N := 18) hx hb hw iw_M hown hE.1 hP 0 rfl rfl 14 (by decide) (hw _ tl_m214) (fun _ h9 => h9) rfl d_M_buildRow_42 ?_
      refine lv_aload_n hx hb d_M_buildRow_45 rfl (lv_at hl 1 rfl) ?_
      refine va_get (ci := 2) (v := .ref (bd 7)) (C := R_M) (T := F_M) (N := 18) hx hb hw iw_M hown hE.1 hP 0 rfl rfl 13 (by decide) (hw _ tl_m213) (fun _ h9 => h9) rfl d_M_buildRow_46 ?_
      refine lv_iload hx hb d_M_buildRow_49 (lv_at hl 0 rfl) ?_
      refine tl_lald (a := i) hx hb hE.1 hP 7 0 rfl rfl (by omega) (by decide) d_M_buildRow_51 ?_
      refine tl_last (a := (0 + i)) hx hb hE.1 hP (tl_DV hap) hS 8 0 rfl rfl (by omega) (by decide) d_M_buildRow_52 (fun H locs hP hS => ?_)
      have hP : va_P D tl_cl (tl_V cJ cI cZ bd E nf tf hn hs rt dn wm cr cd pf pl O ol (vp_updL rw1 (0 + i) (O i)) (0 + i) wh th) H := hP
      refine lv_aload_n hx hb d_M_buildRow_53 rfl (lv_at hl 1 rfl) ?_
      refine lv_aload_n hx hb d_M_buildRow_54 rfl (lv_at hl 1 rfl) ?_
      refine va_get (ci := 2) (v := .int (nI (0 + i))) (C := R_M) (T := F_M) (N := 18) hx hb hw iw_M hown hE.1 hP 0 rfl rfl 14 (by decide) (hw _ tl_m214) (fun _ h9 => h9) rfl d_M_buildRow_55 ?_
      refine lv_iconst (v := (nI (1))) hx hb d_M_buildRow_58 (by decide) ?_
      refine lv_iadd hx hb d_M_buildRow_59 ?_
      refine lv_topi (nm_r (e' := (nI ((0 + i) + 1))) (nI_add _ _) ?_)
      refine va_put (ci := 2) (v := .int (nI ((0 + i) + 1))) (ty := .int) (C := R_M) (T := F_M) (N := 18) hx hb hw iw_M ft_M ft_M_ok n_M hown hE.1 hP (tl_DV hap) hS 0 rfl rfl 14 (by decide) (hw _ tl_m214) (fun _ h9 => h9) rfl (by decide +kernel) rfl rfl (Nat.le_of_ble_eq_true rfl) d_M_buildRow_60 (fun H locs hP _ hS => ?_)
      have hP : va_P D tl_cl (tl_V cJ cI cZ bd E nf tf hn hs rt dn wm cr cd pf pl O ol (vp_updL rw1 (0 + i) (O i)) ((0 + i) + 1) wh th) H := hP
      refine lv_iinc (k := 0) (v := (nI (i + 1))) (lv' := [(4, .int (nI (i + 1))), (0, .ref (bd 0))]) hx hb d_M_buildRow_63 hl rfl (by rw [lit1]; exact (nI_succ _).symm) (by decide) rfl (fun ls hl => ?_)
      refine lv_goto (tgt := 28) hx hb d_M_buildRow_66 (by decide) ?_
      exact ih28 (n28 - 1) _ _ _ (by omega) ⟨i + 1, (vp_updL rw1 (0 + i) (O i)), lv_sub hl [0, 1] rfl, hP, hS, by omega, by omega, (fun j hj => by
            by_cases e9 : j = i
            · rw [e9, Nat.add_comm i 0, pk_uLs]
            · rw [pk_uLn (by omega)]; exact hro j (by omega))⟩
  · -- 10 f
    exact absurd h10 (tl_p2_f hp2)

set_option maxHeartbeats 4000000 in
set_option maxRecDepth 100000 in
theorem c_M_leads (l : Launch) (D : va_G) (cJ cI cG cZ : ClassId) (bd : Nat → Nat) (E : Nat → Int64) (nf : Nat) (tf : Nat → Int64) (hn hs : Nat → Int32) (rt : Nat → Int64) (dn : Bool) (wm cr : Int32) (cd : Bool) (pf : Nat → Int64) (pl : Nat) (O : Nat → Int64) (ol : Nat) (rw : Nat → Int64) (rl : Nat) (wh : Nat → Int64) (th : Nat → Int32) (L : Nat) (sz : Nat → Nat) (Lp : List Int64) (T : Nat → Nat → Int64) (mI kI : Int32) (x y : Int64) (hap : tl_ap bd 11) (hI : tl_G nf hn hs L sz pf pl Lp ol T tf) : Met l y_M_leads (k_M_leads :: tl_ws) { frames := 2, cells := 0, slots := 0, locals := 50 } (tl_Pc D cJ cI cG cZ [.ref (bd 0), .int (mI), .int (kI), .long (x), .long (y)] (fun H => va_P D tl_cl (tl_V cJ cI cZ bd E nf tf hn hs rt dn wm cr cd pf pl O ol rw rl wh th) H)) (tl_Qi (tl_bi (tl_ldA O ol mI kI x y)) (fun H => tl_Y D cJ cI cZ bd (E, nf, T, L, sz, rt, dn, wm, cr, Lp, ol, O) H) (tl_in bd 11)) 0 0 (tl_in bd 11) := by
  refine Met.ofW (cc := b_M_leads) (maxL := 15) (ret := (some .boolean)) (by decide) rfl ?_
  intro p e s m args below meth c s₁ B hml hv
  obtain ⟨rfl, hE, hP⟩ := hv
  have hx := B.exec
  have hb := B.bytes
  have hr := B.returns
  have hw : ∀ w ∈ tl_ws, w.before ([.ref (bd 0), .int (mI), .int (kI), .long (x), .long (y)] : List Value).toArray s = true := fun w h => atoms_spec (ws := k_M_leads :: tl_ws) B.pre w (List.mem_cons_of_mem _ h)
  have hown : s.vm.findClass R_M = some m.cls := findClass_of_methodNamed B.named
  have hlocks := B.notSynchronized
  have hl := lv_entry ([.ref (bd 0), .int (mI), .int (kI), .long (x), .long (y)]) (n := 15) (Nat.le_of_ble_eq_true rfl)
  rw [lg_entry_eq]
  generalize (lg_sl ([.ref (bd 0), .int (mI), .int (kI), .long (x), .long (y)]) ++ List.replicate (15 - (lg_sl ([.ref (bd 0), .int (mI), .int (kI), .long (x), .long (y)])).length) Slot.unset).toArray = ls at hl ⊢
  have hl : lv_has ls 15 [(0, .ref (bd 0)), (1, .int (mI)), (2, .int (kI)), (3, .long (x)), (5, .long (y))] := hl
  have hP : va_P D tl_cl (tl_V cJ cI cZ bd E nf tf hn hs rt dn wm cr cd pf pl O ol rw rl wh th) s.heap := hP
  have hS : va_S (tl_in bd 11) s.heap s.heap [] := va_S.rf
  have hI0 := hI
  obtain ⟨⟨hnf, hL, hh, hz, hsz, hpl, hpf, hp7, hol⟩, hsz0, htf⟩ := hI
  have hpub : tl_pub L sz ≤ 64 := Nat.le_trans (tl_pub_le hsz) hnf
  have hb0 := tl_num_le L 0
  have hb1 := tl_num_le L 1
  refine lv_iload_n hx hb d_M_leads_0 rfl (lv_at hl 2 rfl) ?_
  refine lv_iconst (v := (nI (1))) hx hb d_M_leads_1 (by decide) ?_
  refine lv_icmp_lt (tgt := 21) hx hb d_M_leads_2 (by decide) (fun h2 => ?_) (fun h2 => ?_)
  · -- 2 t
    refine lv_iconst (v := (nI (0))) hx hb d_M_leads_21 (by decide) ?_
    refine lv_topi (nm_r (e' := tl_bi (tl_ldA O ol mI kI x y)) ((tl_bi0 (by unfold tl_ldA; first | (rw [if_pos h2]; done) | (rw [if_neg h2, if_pos h8]; done) | (rw [if_neg h2, if_neg h8, if_pos h13]; done) | rw [if_neg h2, if_neg h8, if_neg h13, if_neg h18]))) ?_)
    exact W.zret hx hb hr (tl_bi_nar _) (fun t9 ht9 _ => tl_endI hS (show tl_Y D cJ cI cZ bd (E, nf, T, L, sz, rt, dn, wm, cr, Lp, ol, O) _ from ⟨tf, hn, hs, cd, pf, pl, rw, rl, wh, th, hI0, hP⟩) ht9) hS.2.2 d_M_leads_22
  · -- 2 f
    refine lv_iload_n hx hb d_M_leads_5 rfl (lv_at hl 2 rfl) ?_
    refine lv_ldc (v := 1000000) hx hb hown (hw _ tl_m341) d_M_leads_6 ?_
    refine lv_topi (nm_r (e' := (nI (1000000))) (rfl) ?_)
    refine lv_icmp_gt (tgt := 21) hx hb d_M_leads_8 (by decide) (fun h8 => ?_) (fun h8 => ?_)
    · -- 8 t
      refine lv_iconst (v := (nI (0))) hx hb d_M_leads_21 (by decide) ?_
      refine lv_topi (nm_r (e' := tl_bi (tl_ldA O ol mI kI x y)) ((tl_bi0 (by unfold tl_ldA; first | (rw [if_pos h2]; done) | (rw [if_neg h2, if_pos h8]; done) | (rw [if_neg h2, if_neg h8, if_pos h13]; done) | rw [if_neg h2, if_neg h8, if_neg h13, if_neg h18]))) ?_)
      exact W.zret hx hb hr (tl_bi_nar _) (fun t9 ht9 _ => tl_endI hS (show tl_Y D cJ cI cZ bd (E, nf, T, L, sz, rt, dn, wm, cr, Lp, ol, O) _ from ⟨tf, hn, hs, cd, pf, pl, rw, rl, wh, th, hI0, hP⟩) ht9) hS.2.2 d_M_leads_22
    · -- 8 f
      refine lv_iload_n hx hb d_M_leads_11 rfl (lv_at hl 1 rfl) ?_
      refine lv_iconst (v := (nI (1))) hx hb d_M_leads_12 (by decide) ?_
      refine lv_icmp_lt (tgt := 21) hx hb d_M_leads_13 (by decide) (fun h13 => ?_) (fun h13 => ?_)
      · -- 13 t
        refine lv_iconst (v := (nI (0))) hx hb d_M_leads_21 (by decide) ?_
        refine lv_topi (nm_r (e' := tl_bi (tl_ldA O ol mI kI x y)) ((tl_bi0 (by unfold tl_ldA; first | (rw [if_pos h2]; done) | (rw [if_neg h2, if_pos h8]; done) | (rw [if_neg h2, if_neg h8, if_pos h13]; done) | rw [if_neg h2, if_neg h8, if_neg h13, if_neg h18]))) ?_)
        exact W.zret hx hb hr (tl_bi_nar _) (fun t9 ht9 _ => tl_endI hS (show tl_Y D cJ cI cZ bd (E, nf, T, L, sz, rt, dn, wm, cr, Lp, ol, O) _ from ⟨tf, hn, hs, cd, pf, pl, rw, rl, wh, th, hI0, hP⟩) ht9) hS.2.2 d_M_leads_22
      · -- 13 f
        refine lv_iload_n hx hb d_M_leads_16 rfl (lv_at hl 1 rfl) ?_
        refine lv_iload_n hx hb d_M_leads_17 rfl (lv_at hl 2 rfl) ?_
        refine lv_icmp_le (tgt := 23) hx hb d_M_leads_18 (by decide) (fun h18 => ?_) (fun h18 => ?_)
        · -- 18 t
          obtain ⟨kk, hk1, hk2, rfl⟩ := tl_ge1 h2
          obtain ⟨mm, hm1, hm2, rfl⟩ := tl_ge1 h13
          have g18 : mm ≤ kk := (nI_leI hm2 hk2).mp h18
          have g8 : kk ≤ 1000000 := Nat.le_of_not_lt (fun q => h8 ((nI_ltI (by decide) hk2).mpr q))
          have hsp : tl_ldA O ol (nI mm) (nI kk) x y = (if nI mm = nI kk then (ol == 0 && x == y) else if tl_p2 (nI mm) then tl_ldT O ol mm kk x y else if ol = 0 then false else tl_ldF O ol mm kk x y) := by unfold tl_ldA; rw [if_neg h2, if_neg h8, if_neg h13, if_pos h18, nI_clamp hm2, nI_clamp hk2]
          refine lv_iload_n hx hb d_M_leads_23 rfl (lv_at hl 1 rfl) ?_
          refine lv_iload_n hx hb d_M_leads_24 rfl (lv_at hl 2 rfl) ?_
          refine tl_cne (tgt := 48) (by omega) (by omega) hx hb d_M_leads_25 (by decide) (fun h25 => ?_) (fun h25 => ?_)
          · -- 25 t
            have g25 : ¬ nI mm = nI kk := fun q => h25 ((nI_eq hm2 hk2).mp q)
            rcases Bool.eq_false_or_eq_true (tl_p2 (nI mm)) with hp2 | hp2
            · -- power of two: true
              have hspB : tl_ldA O ol (nI mm) (nI kk) x y = tl_ldT O ol mm kk x y := by rw [hsp, if_neg g25, hp2]; rfl
              refine lv_aload_n hx hb d_M_leads_48 rfl (lv_at hl 0 rfl) ?_
              refine lv_iload_n hx hb d_M_leads_49 rfl (lv_at hl 1 rfl) ?_
              refine lv_lload_n hx hb d_M_leads_50 rfl (lv_at hl 3 rfl) ?_
              refine tl_doV (va_runV (As := [.int (nI (mm)), .long (x)]) (rest := []) ⟨hx, hb, hml, hown, hw⟩ (c_M_buildRow_t l D cJ cI cG cZ bd E nf tf hn hs rt dn wm cr cd pf pl O ol rw rl wh th (nI (mm)) x hap hol hp2) (⟨tl_cB hw tl_m351 tl_m3 tl_m349 dd_M_buildRow rfl rfl ⟨Nat.le_of_ble_eq_true rfl, Nat.le_of_ble_eq_true rfl⟩, hw _ tl_m350, hw _ tl_m379⟩) (tl_preV hE hP (va_recv (q0 := 0) (ci := 2) (q := (R_M, F_M, 18)) hE.1 hP rfl rfl)) rfl rfl hl.1 rfl (lv_room (Nat.le_of_ble_eq_true rfl)) d_M_leads_51 ⟨Nat.zero_le _, Nat.zero_le _⟩) hS (fun _ h => h) (fun H locs hX hS _ => ?_)
              obtain ⟨rw9, hro, hr0, hP⟩ := hX
              have hP : va_P D tl_cl (tl_V cJ cI cZ bd E nf tf hn hs rt dn wm cr cd pf pl O ol rw9 (1 + ol) wh th) H := hP
              refine lv_aload_n hx hb d_M_leads_54 rfl (lv_at hl 0 rfl) ?_
              refine va_get (ci := 2) (v := .int (nI (1 + ol))) (C := R_M) (T := F_M) (N := 18) hx hb hw iw_M hown hE.1 hP 0 rfl rfl 14 (by decide) (hw _ tl_m214) (fun _ h9 => h9) rfl d_M_leads_55 ?_
              refine tl_zne (tgt := 63) (by omega) hx hb d_M_leads_58 (by decide) (fun h58 => ?_) (fun h58 => ?_)
              · -- 58 t
                refine lv_iload_n hx hb d_M_leads_63 rfl (lv_at hl 1 rfl) ?_
                refine lv_iconst (v := (nI (1))) hx hb d_M_leads_64 (by decide) ?_
                refine lv_isub hx hb d_M_leads_65 ?_
                refine lv_topi (nm_r (e' := (nI (mm - 1))) (pk_sub (by omega)) ?_)
                refine lv_istore (lv' := [(7, .int (nI (mm - 1))), (0, .ref (bd 0)), (1, .int (nI (mm))), (2, .int (nI (kk))), (3, .long (x)), (5, .long (y))]) hx hb d_M_leads_66 hl (by decide) rfl (fun ls hl => ?_)
                refine lv_iload_n hx hb d_M_leads_68 rfl (lv_at hl 3 rfl) ?_
                refine lv_iconst (v := (nI (1))) hx hb d_M_leads_69 (by decide) ?_
                refine lv_isub hx hb d_M_leads_70 ?_
                refine lv_topi (nm_r (e' := (nI (kk - 1))) (pk_sub (by omega)) ?_)
                refine lv_istore (lv' := [(8, .int (nI (kk - 1))), (7, .int (nI (mm - 1))), (0, .ref (bd 0)), (1, .int (nI (mm))), (2, .int (nI (kk))), (3, .long (x)), (5, .long (y))]) hx hb d_M_leads_71 hl (by decide) rfl (fun ls hl => ?_)
                refine tl_loopR (fun n73 ls => ∃ (j : Nat), lv_has ls 15 [(7, .int (nI ((mm - 1) / 2 ^ j))), (8, .int (nI ((kk - 1) / 2 ^ j))), (3, .long (x)), (5, .long (y)), (0, .ref (bd 0))] ∧ (j ≤ 30) ∧ (n73 = 31 - j) ∧ (∀ i, i < j → mm / 2 ^ i % 2 = 0)) (fun n73 ls hI ih73 => ?_) 31 _ ⟨0, lv_sub hl [1, 0, 5, 6, 2] (by rw [Nat.pow_zero, Nat.div_one, Nat.div_one]; rfl), by omega, by omega, fun j hj => absurd hj (Nat.not_lt_zero _)⟩
                obtain ⟨j, hl, hj, hm7, hz9⟩ := hI
                refine lv_iload hx hb d_M_leads_73 (lv_at hl 0 rfl) ?_
                refine lv_iconst (v := (nI (1))) hx hb d_M_leads_75 (by decide) ?_
                refine lv_iand hx hb d_M_leads_76 ?_
                refine lv_topi (nm_r (e' := (nI ((mm - 1) / 2 ^ j % 2))) (tl_and1 (Nat.lt_of_le_of_lt (tl_div_le _ _) (by omega))) ?_)
                refine lv_iconst (v := (nI (1))) hx hb d_M_leads_77 (by decide) ?_
                refine tl_cne (tgt := 96) (by omega) (by omega) hx hb d_M_leads_78 (by decide) (fun h78 => ?_) (fun h78 => ?_)
                · -- 78 t
                  have hjt : j = tl_tz mm := tl_tz_is (by omega) (by omega) (tl_even (by omega) hz9 h78) hz9
                  subst hjt
                  refine lv_aload_n hx hb d_M_leads_96 rfl (lv_at hl 4 rfl) ?_
                  refine va_get (ci := 2) (v := .ref (bd 8)) (C := R_M) (T := F_M) (N := 18) hx hb hw iw_M hown hE.1 hP 0 rfl rfl 15 (by decide) (hw _ tl_m215) (fun _ h9 => h9) rfl d_M_leads_97 ?_
                  refine lv_iconst (v := (nI (0))) hx hb d_M_leads_100 (by decide) ?_
                  refine tl_lald (a := 0) hx hb hE.1 hP 8 0 rfl rfl (by omega) (by decide) d_M_leads_101 ?_
                  refine lv_lstore (lv' := [(9, .long (rw9 0)), (7, .int (nI ((mm - 1) / 2 ^ tl_tz mm))), (8, .int (nI ((kk - 1) / 2 ^ tl_tz mm))), (3, .long (x)), (5, .long (y)), (0, .ref (bd 0))]) hx hb d_M_leads_102 hl (by decide) rfl (fun ls hl => ?_)
                  refine lv_aload_n hx hb d_M_leads_104 rfl (lv_at hl 5 rfl) ?_
                  refine va_get (ci := 2) (v := .ref (bd 8)) (C := R_M) (T := F_M) (N := 18) hx hb hw iw_M hown hE.1 hP 0 rfl rfl 15 (by decide) (hw _ tl_m215) (fun _ h9 => h9) rfl d_M_leads_105 ?_
                  refine lv_iconst (v := (nI (0))) hx hb d_M_leads_108 (by decide) ?_
                  refine tl_lald (a := 0) hx hb hE.1 hP 8 0 rfl rfl (by omega) (by decide) d_M_leads_109 ?_
                  refine lv_lstore (lv' := [(11, .long (rw9 0)), (9, .long (rw9 0)), (7, .int (nI ((mm - 1) / 2 ^ tl_tz mm))), (8, .int (nI ((kk - 1) / 2 ^ tl_tz mm))), (3, .long (x)), (5, .long (y)), (0, .ref (bd 0))]) hx hb d_M_leads_110 hl (by decide) rfl (fun ls hl => ?_)
                  refine lv_iconst (v := (nI (1))) hx hb d_M_leads_112 (by decide) ?_
                  refine lv_istore (lv' := [(13, .int (nI (1))), (11, .long (rw9 0)), (9, .long (rw9 0)), (7, .int (nI ((mm - 1) / 2 ^ tl_tz mm))), (8, .int (nI ((kk - 1) / 2 ^ tl_tz mm))), (3, .long (x)), (5, .long (y)), (0, .ref (bd 0))]) hx hb d_M_leads_113 hl (by decide) rfl (fun ls hl => ?_)
                  refine tl_loopR (fun n115 ls => ∃ (i : Nat) (f : Nat) (g : Nat) (va : Int64) (vb : Int64), lv_has ls 15 [(13, .int (nI (i))), (7, .int (nI (f))), (8, .int (nI (g))), (9, .long (va)), (11, .long (vb)), (3, .long (x)), (5, .long (y)), (0, .ref (bd 0))] ∧ (i ≤ 1 + ol) ∧ (1 ≤ i) ∧ (n115 = 1 + ol - i) ∧ (f ≤ 1000000) ∧ (g ≤ 1000000) ∧ (tl_lead rw9 (1 + ol - i) i f g va vb = tl_lead rw9 (1 + ol - 1) 1 ((mm - 1) / 2 ^ tl_tz mm) ((kk - 1) / 2 ^ tl_tz mm) (rw9 0) (rw9 0))) (fun n115 ls hI ih115 => ?_) (1 + ol - 1) _ ⟨1, (mm - 1) / 2 ^ tl_tz mm, (kk - 1) / 2 ^ tl_tz mm, rw9 0, rw9 0, lv_sub hl [0, 3, 4, 2, 1, 5, 6, 7] rfl, by omega, by omega, by omega, Nat.le_trans (tl_div_le _ _) (by omega), Nat.le_trans (tl_div_le _ _) (by omega), rfl⟩
                  obtain ⟨i, f, g, va, vb, hl, hi, hi1, hm, hf, hg, hq⟩ := hI
                  refine lv_iload hx hb d_M_leads_115 (lv_at hl 0 rfl) ?_
                  refine lv_aload_n hx hb d_M_leads_117 rfl (lv_at hl 7 rfl) ?_
                  refine va_get (ci := 2) (v := .int (nI (1 + ol))) (C := R_M) (T := F_M) (N := 18) hx hb hw iw_M hown hE.1 hP 0 rfl rfl 14 (by decide) (hw _ tl_m214) (fun _ h9 => h9) rfl d_M_leads_118 ?_
                  refine tl_cge (tgt := 230) (by omega) (by omega) hx hb d_M_leads_121 (by decide) (fun h121 => ?_) (fun h121 => ?_)
                  · -- 121 t
                    refine lv_iload hx hb d_M_leads_230 (lv_at hl 2 rfl) ?_
                    refine tl_zne (tgt := 254) (by omega) hx hb d_M_leads_232 (by decide) (fun h232 => ?_) (fun h232 => ?_)
                    · -- 232 t
                      refine lv_iconst (v := (nI (0))) hx hb d_M_leads_254 (by decide) ?_
                      have hqB : tl_ldA O ol (nI mm) (nI kk) x y = tl_ldB (tl_lead rw9 (1 + ol - 1) 1 ((mm - 1) / 2 ^ tl_tz mm) ((kk - 1) / 2 ^ tl_tz mm) (rw9 0) (rw9 0)) x y := by rw [hspB, ← tl_ldT_of (m := mm) (k := kk) (x := x) (y := y) hro, hr0]
                      refine lv_topi (nm_r (e' := tl_bi (tl_ldA O ol (nI (mm)) (nI (kk)) x y)) ((by first | exact tl_bi1 (by rw [hqB, ← hq, show 1 + ol - i = 0 by omega, tl_lead_0]; unfold tl_ldB; rw [h232, h239, h247]; simp) | exact tl_bi0 (by rw [hqB, ← hq, show 1 + ol - i = 0 by omega, tl_lead_0]; unfold tl_ldB; rw [h232, h239]; simp [h247]) | exact tl_bi0 (by rw [hqB, ← hq, show 1 + ol - i = 0 by omega, tl_lead_0]; unfold tl_ldB; rw [h232]; simp [h239]) | exact tl_bi0 (by rw [hqB, ← hq, show 1 + ol - i = 0 by omega, tl_lead_0]; unfold tl_ldB; simp [h232]))) ?_)
                      exact W.zret hx hb hr (tl_bi_nar _) (fun t9 ht9 _ => tl_endI hS (show tl_Y D cJ cI cZ bd (E, nf, T, L, sz, rt, dn, wm, cr, Lp, ol, O) _ from ⟨tf, hn, hs, cd, pf, pl, rw9, (1 + ol), wh, th, hI0, hP⟩) ht9) hS.2.2 d_M_leads_255
                    · -- 232 f
                      refine lv_lload hx hb d_M_leads_235 (lv_at hl 3 rfl) ?_
                      refine lv_lload_n hx hb d_M_leads_237 rfl (lv_at hl 5 rfl) ?_
                      refine tl_lne (tgt := 254) hx hb d_M_leads_238 d_M_leads_239 (by decide) (fun h239 => ?_) (fun h239 => ?_)
                      · -- 239 t
                        refine lv_iconst (v := (nI (0))) hx hb d_M_leads_254 (by decide) ?_
                        have hqB : tl_ldA O ol (nI mm) (nI kk) x y = tl_ldB (tl_lead rw9 (1 + ol - 1) 1 ((mm - 1) / 2 ^ tl_tz mm) ((kk - 1) / 2 ^ tl_tz mm) (rw9 0) (rw9 0)) x y := by rw [hspB, ← tl_ldT_of (m := mm) (k := kk) (x := x) (y := y) hro, hr0]
                        refine lv_topi (nm_r (e' := tl_bi (tl_ldA O ol (nI (mm)) (nI (kk)) x y)) ((by first | exact tl_bi1 (by rw [hqB, ← hq, show 1 + ol - i = 0 by omega, tl_lead_0]; unfold tl_ldB; rw [h232, h239, h247]; simp) | exact tl_bi0 (by rw [hqB, ← hq, show 1 + ol - i = 0 by omega, tl_lead_0]; unfold tl_ldB; rw [h232, h239]; simp [h247]) | exact tl_bi0 (by rw [hqB, ← hq, show 1 + ol - i = 0 by omega, tl_lead_0]; unfold tl_ldB; rw [h232]; simp [h239]) | exact tl_bi0 (by rw [hqB, ← hq, show 1 + ol - i = 0 by omega, tl_lead_0]; unfold tl_ldB; simp [h232]))) ?_)
                        exact W.zret hx hb hr (tl_bi_nar _) (fun t9 ht9 _ => tl_endI hS (show tl_Y D cJ cI cZ bd (E, nf, T, L, sz, rt, dn, wm, cr, Lp, ol, O) _ from ⟨tf, hn, hs, cd, pf, pl, rw9, (1 + ol), wh, th, hI0, hP⟩) ht9) hS.2.2 d_M_leads_255
                      · -- 239 f
                        refine lv_lload hx hb d_M_leads_242 (lv_at hl 4 rfl) ?_
                        refine lv_lload hx hb d_M_leads_244 (lv_at hl 6 rfl) ?_
                        refine tl_lne (tgt := 254) hx hb d_M_leads_246 d_M_leads_247 (by decide) (fun h247 => ?_) (fun h247 => ?_)
                        · -- 247 t
                          refine lv_iconst (v := (nI (0))) hx hb d_M_leads_254 (by decide) ?_
                          have hqB : tl_ldA O ol (nI mm) (nI kk) x y = tl_ldB (tl_lead rw9 (1 + ol - 1) 1 ((mm - 1) / 2 ^ tl_tz mm) ((kk - 1) / 2 ^ tl_tz mm) (rw9 0) (rw9 0)) x y := by rw [hspB, ← tl_ldT_of (m := mm) (k := kk) (x := x) (y := y) hro, hr0]
                          refine lv_topi (nm_r (e' := tl_bi (tl_ldA O ol (nI (mm)) (nI (kk)) x y)) ((by first | exact tl_bi1 (by rw [hqB, ← hq, show 1 + ol - i = 0 by omega, tl_lead_0]; unfold tl_ldB; rw [h232, h239, h247]; simp) | exact tl_bi0 (by rw [hqB, ← hq, show 1 + ol - i = 0 by omega, tl_lead_0]; unfold tl_ldB; rw [h232, h239]; simp [h247]) | exact tl_bi0 (by rw [hqB, ← hq, show 1 + ol - i = 0 by omega, tl_lead_0]; unfold tl_ldB; rw [h232]; simp [h239]) | exact tl_bi0 (by rw [hqB, ← hq, show 1 + ol - i = 0 by omega, tl_lead_0]; unfold tl_ldB; simp [h232]))) ?_)
                          exact W.zret hx hb hr (tl_bi_nar _) (fun t9 ht9 _ => tl_endI hS (show tl_Y D cJ cI cZ bd (E, nf, T, L, sz, rt, dn, wm, cr, Lp, ol, O) _ from ⟨tf, hn, hs, cd, pf, pl, rw9, (1 + ol), wh, th, hI0, hP⟩) ht9) hS.2.2 d_M_leads_255
                        · -- 247 f
                          refine lv_iconst (v := (nI (1))) hx hb d_M_leads_250 (by decide) ?_
                          refine lv_goto (tgt := 255) hx hb d_M_leads_251 (by decide) ?_
                          have hqB : tl_ldA O ol (nI mm) (nI kk) x y = tl_ldB (tl_lead rw9 (1 + ol - 1) 1 ((mm - 1) / 2 ^ tl_tz mm) ((kk - 1) / 2 ^ tl_tz mm) (rw9 0) (rw9 0)) x y := by rw [hspB, ← tl_ldT_of (m := mm) (k := kk) (x := x) (y := y) hro, hr0]
                          refine lv_topi (nm_r (e' := tl_bi (tl_ldA O ol (nI (mm)) (nI (kk)) x y)) ((by first | exact tl_bi1 (by rw [hqB, ← hq, show 1 + ol - i = 0 by omega, tl_lead_0]; unfold tl_ldB; rw [h232, h239, h247]; simp) | exact tl_bi0 (by rw [hqB, ← hq, show 1 + ol - i = 0 by omega, tl_lead_0]; unfold tl_ldB; rw [h232, h239]; simp [h247]) | exact tl_bi0 (by rw [hqB, ← hq, show 1 + ol - i = 0 by omega, tl_lead_0]; unfold tl_ldB; rw [h232]; simp [h239]) | exact tl_bi0 (by rw [hqB, ← hq, show 1 + ol - i = 0 by omega, tl_lead_0]; unfold tl_ldB; simp [h232]))) ?_)
                          exact W.zret hx hb hr (tl_bi_nar _) (fun t9 ht9 _ => tl_endI hS (show tl_Y D cJ cI cZ bd (E, nf, T, L, sz, rt, dn, wm, cr, Lp, ol, O) _ from ⟨tf, hn, hs, cd, pf, pl, rw9, (1 + ol), wh, th, hI0, hP⟩) ht9) hS.2.2 d_M_leads_255
                  · -- 121 f
                    refine lv_iload hx hb d_M_leads_124 (lv_at hl 2 rfl) ?_
                    refine tl_zne (tgt := 131) (by omega) hx hb d_M_leads_126 (by decide) (fun h126 => ?_) (fun h126 => ?_)
                    · -- 126 t
                      refine lv_iload hx hb d_M_leads_131 (lv_at hl 1 rfl) ?_
                      refine lv_iconst (v := (nI (1))) hx hb d_M_leads_133 (by decide) ?_
                      refine lv_iand hx hb d_M_leads_134 ?_
                      refine lv_topi (nm_r (e' := (nI (f % 2))) (tl_and1 (by omega)) ?_)
                      refine lv_iconst (v := (nI (1))) hx hb d_M_leads_135 (by decide) ?_
                      refine tl_ceq (tgt := 146) (by omega) (by omega) hx hb d_M_leads_136 (by decide) (fun h136 => ?_) (fun h136 => ?_)
                      · -- 136 t
                        have hle := tl_left_t (g := g) (Or.inl h136)
                        refine lv_aload_n hx hb d_M_leads_146 rfl (lv_at hl 7 rfl) ?_
                        refine va_get (ci := 2) (v := .ref (bd 8)) (C := R_M) (T := F_M) (N := 18) hx hb hw iw_M hown hE.1 hP 0 rfl rfl 15 (by decide) (hw _ tl_m215) (fun _ h9 => h9) rfl d_M_leads_147 ?_
                        refine lv_iload hx hb d_M_leads_150 (lv_at hl 0 rfl) ?_
                        refine tl_lald (a := i) hx hb hE.1 hP 8 0 rfl rfl (by omega) (by decide) d_M_leads_152 ?_
                        refine lv_lload hx hb d_M_leads_153 (lv_at hl 3 rfl) ?_
                        refine tl_goL (v := (tl_node (rw9 i) (va))) (va_runS (As := [.long (rw9 i), .long (va)]) (rest := []) ⟨hx, hb, hml, hown, hw⟩ (c_M_node l (rw9 i) (va)) (⟨tl_cB hw tl_m256 tl_m3 tl_m254 dd_M_node rfl rfl ⟨Nat.le_of_ble_eq_true rfl, Nat.le_of_ble_eq_true rfl⟩, hw _ tl_m255⟩) (tl_pre0) rfl rfl hl.1 rfl (lv_room (Nat.le_of_ble_eq_true rfl)) d_M_leads_155 ⟨Nat.zero_le _, Nat.zero_le _⟩) ?_
                        refine lv_lstore (lv' := [(9, .long (tl_node (rw9 i) (va))), (13, .int (nI (i))), (7, .int (nI (f))), (8, .int (nI (g))), (11, .long (vb)), (3, .long (x)), (5, .long (y)), (0, .ref (bd 0))]) hx hb d_M_leads_158 hl (by decide) rfl (fun ls hl => ?_)
                        refine lv_aload_n hx hb d_M_leads_160 rfl (lv_at hl 7 rfl) ?_
                        refine va_get (ci := 2) (v := .ref (bd 8)) (C := R_M) (T := F_M) (N := 18) hx hb hw iw_M hown hE.1 hP 0 rfl rfl 15 (by decide) (hw _ tl_m215) (fun _ h9 => h9) rfl d_M_leads_161 ?_
                        refine lv_iload hx hb d_M_leads_164 (lv_at hl 1 rfl) ?_
                        refine tl_lald (a := i) hx hb hE.1 hP 8 0 rfl rfl (by omega) (by decide) d_M_leads_166 ?_
                        refine lv_lload hx hb d_M_leads_167 (lv_at hl 4 rfl) ?_
                        refine tl_goL (v := (tl_node (rw9 i) (vb))) (va_runS (As := [.long (rw9 i), .long (vb)]) (rest := []) ⟨hx, hb, hml, hown, hw⟩ (c_M_node l (rw9 i) (vb)) (⟨tl_cB hw tl_m256 tl_m3 tl_m254 dd_M_node rfl rfl ⟨Nat.le_of_ble_eq_true rfl, Nat.le_of_ble_eq_true rfl⟩, hw _ tl_m255⟩) (tl_pre0) rfl rfl hl.1 rfl (lv_room (Nat.le_of_ble_eq_true rfl)) d_M_leads_169 ⟨Nat.zero_le _, Nat.zero_le _⟩) ?_
                        refine lv_lstore (lv' := [(11, .long (tl_node (rw9 i) (vb))), (9, .long (tl_node (rw9 i) (va))), (13, .int (nI (i))), (7, .int (nI (f))), (8, .int (nI (g))), (3, .long (x)), (5, .long (y)), (0, .ref (bd 0))]) hx hb d_M_leads_172 hl (by decide) rfl (fun ls hl => ?_)
                        refine lv_iload hx hb d_M_leads_174 (lv_at hl 3 rfl) ?_
                        refine tl_goI (v := (nI (tl_tz f))) (va_runS (As := [.int (nI (f))]) (rest := []) ⟨hx, hb, hml, hown, hw⟩ (c_M_halvings l f (by omega)) (⟨tl_cB hw tl_m344 tl_m3 tl_m342 dd_M_halvings rfl rfl ⟨Nat.le_of_ble_eq_true rfl, Nat.le_of_ble_eq_true rfl⟩, hw _ tl_m343⟩) (tl_pre0) rfl rfl hl.1 rfl (lv_room (Nat.le_of_ble_eq_true rfl)) d_M_leads_176 ⟨Nat.zero_le _, Nat.zero_le _⟩) ?_
                        have htz := tl_tz_lt (x := f) (by omega)
                        refine lv_istore (lv' := [(14, .int (nI (tl_tz f))), (11, .long (tl_node (rw9 i) (vb))), (9, .long (tl_node (rw9 i) (va))), (13, .int (nI (i))), (7, .int (nI (f))), (8, .int (nI (g))), (3, .long (x)), (5, .long (y)), (0, .ref (bd 0))]) hx hb d_M_leads_179 hl (by decide) rfl (fun ls hl => ?_)
                        refine lv_iload hx hb d_M_leads_181 (lv_at hl 4 rfl) ?_
                        refine lv_iload hx hb d_M_leads_183 (lv_at hl 0 rfl) ?_
                        refine lv_ishr hx hb d_M_leads_185 ?_
                        refine lv_topi (nm_r (e' := (nI (f / 2 ^ (tl_tz f)))) (tl_shr (by omega) (by omega)) ?_)
                        refine lv_istore (lv' := [(7, .int (nI (f / 2 ^ (tl_tz f)))), (14, .int (nI (tl_tz f))), (11, .long (tl_node (rw9 i) (vb))), (9, .long (tl_node (rw9 i) (va))), (13, .int (nI (i))), (8, .int (nI (g))), (3, .long (x)), (5, .long (y)), (0, .ref (bd 0))]) hx hb d_M_leads_186 hl (by decide) rfl (fun ls hl => ?_)
                        refine lv_iload hx hb d_M_leads_188 (lv_at hl 5 rfl) ?_
                        refine lv_iload hx hb d_M_leads_190 (lv_at hl 1 rfl) ?_
                        refine lv_ishr hx hb d_M_leads_192 ?_
                        refine lv_topi (nm_r (e' := (nI (g / 2 ^ (tl_tz f)))) (tl_shr (by omega) (by omega)) ?_)
                        refine lv_istore (lv' := [(8, .int (nI (g / 2 ^ (tl_tz f)))), (7, .int (nI (f / 2 ^ (tl_tz f)))), (14, .int (nI (tl_tz f))), (11, .long (tl_node (rw9 i) (vb))), (9, .long (tl_node (rw9 i) (va))), (13, .int (nI (i))), (3, .long (x)), (5, .long (y)), (0, .ref (bd 0))]) hx hb d_M_leads_193 hl (by decide) rfl (fun ls hl => ?_)
                        refine lv_goto (tgt := 212) hx hb d_M_leads_195 (by decide) ?_
                        refine lv_iload hx hb d_M_leads_212 (lv_at hl 1 rfl) ?_
                        refine lv_iconst (v := (nI (1))) hx hb d_M_leads_214 (by decide) ?_
                        refine lv_ishr hx hb d_M_leads_215 ?_
                        refine lv_topi (nm_r (e' := (nI ((f / 2 ^ (tl_tz f)) / 2 ^ 1))) (tl_shr (Nat.lt_of_le_of_lt (tl_div_le _ _) (by omega)) (by omega)) ?_)
                        refine lv_istore (lv' := [(7, .int (nI ((f / 2 ^ (tl_tz f)) / 2 ^ 1))), (8, .int (nI (g / 2 ^ (tl_tz f)))), (14, .int (nI (tl_tz f))), (11, .long (tl_node (rw9 i) (vb))), (9, .long (tl_node (rw9 i) (va))), (13, .int (nI (i))), (3, .long (x)), (5, .long (y)), (0, .ref (bd 0))]) hx hb d_M_leads_216 hl (by decide) rfl (fun ls hl => ?_)
                        refine lv_iload hx hb d_M_leads_218 (lv_at hl 1 rfl) ?_
                        refine lv_iconst (v := (nI (1))) hx hb d_M_leads_220 (by decide) ?_
                        refine lv_ishr hx hb d_M_leads_221 ?_
                        refine lv_topi (nm_r (e' := (nI ((g / 2 ^ (tl_tz f)) / 2 ^ 1))) (tl_shr (Nat.lt_of_le_of_lt (tl_div_le _ _) (by omega)) (by omega)) ?_)
                        refine lv_istore (lv' := [(8, .int (nI ((g / 2 ^ (tl_tz f)) / 2 ^ 1))), (7, .int (nI ((f / 2 ^ (tl_tz f)) / 2 ^ 1))), (14, .int (nI (tl_tz f))), (11, .long (tl_node (rw9 i) (vb))), (9, .long (tl_node (rw9 i) (va))), (13, .int (nI (i))), (3, .long (x)), (5, .long (y)), (0, .ref (bd 0))]) hx hb d_M_leads_222 hl (by decide) rfl (fun ls hl => ?_)
                        refine lv_iinc (k := 5) (v := (nI (i + 1))) (lv' := [(13, .int (nI (i + 1))), (8, .int (nI ((g / 2 ^ (tl_tz f)) / 2 ^ 1))), (7, .int (nI ((f / 2 ^ (tl_tz f)) / 2 ^ 1))), (14, .int (nI (tl_tz f))), (11, .long (tl_node (rw9 i) (vb))), (9, .long (tl_node (rw9 i) (va))), (3, .long (x)), (5, .long (y)), (0, .ref (bd 0))]) hx hb d_M_leads_224 hl rfl (by rw [lit1]; exact (nI_succ _).symm) (by decide) rfl (fun ls hl => ?_)
                        refine lv_goto (tgt := 115) hx hb d_M_leads_227 (by decide) ?_
                        exact ih115 (n115 - 1) _ (by omega) ⟨i + 1, ((f / 2 ^ (tl_tz f)) / 2 ^ 1), ((g / 2 ^ (tl_tz f)) / 2 ^ 1), (tl_node (rw9 i) (va)), (tl_node (rw9 i) (vb)), lv_sub hl [0, 2, 1, 5, 4, 6, 7, 8] rfl, by omega, by omega, by omega, (Nat.le_trans (tl_div_le _ _) (Nat.le_trans (tl_div_le _ _) hf)), (Nat.le_trans (tl_div_le _ _) (Nat.le_trans (tl_div_le _ _) hg)), (by rw [← hq, show 1 + ol - i = (1 + ol - (i + 1)) + 1 by omega, tl_lead_t h126 hle, tl_lv_t hle, tl_dd f (tl_tz f), tl_dd g (tl_tz f)])⟩
                      · -- 136 f
                        refine lv_iload hx hb d_M_leads_139 (lv_at hl 1 rfl) ?_
                        refine lv_iload hx hb d_M_leads_141 (lv_at hl 2 rfl) ?_
                        refine tl_cne (tgt := 198) (by omega) (by omega) hx hb d_M_leads_143 (by decide) (fun h143 => ?_) (fun h143 => ?_)
                        · -- 143 t
                          have hle := tl_left_f h136 h143
                          refine lv_lload hx hb d_M_leads_198 (lv_at hl 4 rfl) ?_
                          refine lv_aload_n hx hb d_M_leads_200 rfl (lv_at hl 7 rfl) ?_
                          refine va_get (ci := 2) (v := .ref (bd 8)) (C := R_M) (T := F_M) (N := 18) hx hb hw iw_M hown hE.1 hP 0 rfl rfl 15 (by decide) (hw _ tl_m215) (fun _ h9 => h9) rfl d_M_leads_201 ?_
                          refine lv_iload hx hb d_M_leads_204 (lv_at hl 0 rfl) ?_
                          refine tl_lald (a := i) hx hb hE.1 hP 8 0 rfl rfl (by omega) (by decide) d_M_leads_206 ?_
                          refine tl_goL (v := (tl_node (vb) (rw9 i))) (va_runS (As := [.long (vb), .long (rw9 i)]) (rest := []) ⟨hx, hb, hml, hown, hw⟩ (c_M_node l (vb) (rw9 i)) (⟨tl_cB hw tl_m256 tl_m3 tl_m254 dd_M_node rfl rfl ⟨Nat.le_of_ble_eq_true rfl, Nat.le_of_ble_eq_true rfl⟩, hw _ tl_m255⟩) (tl_pre0) rfl rfl hl.1 rfl (lv_room (Nat.le_of_ble_eq_true rfl)) d_M_leads_207 ⟨Nat.zero_le _, Nat.zero_le _⟩) ?_
                          refine lv_lstore (lv' := [(11, .long (tl_node (vb) (rw9 i))), (13, .int (nI (i))), (7, .int (nI (f))), (8, .int (nI (g))), (9, .long (va)), (3, .long (x)), (5, .long (y)), (0, .ref (bd 0))]) hx hb d_M_leads_210 hl (by decide) rfl (fun ls hl => ?_)
                          refine lv_iload hx hb d_M_leads_212 (lv_at hl 2 rfl) ?_
                          refine lv_iconst (v := (nI (1))) hx hb d_M_leads_214 (by decide) ?_
                          refine lv_ishr hx hb d_M_leads_215 ?_
                          refine lv_topi (nm_r (e' := (nI (f / 2 ^ 1))) (tl_shr (Nat.lt_of_le_of_lt (Nat.le_refl _) (by omega)) (by omega)) ?_)
                          refine lv_istore (lv' := [(7, .int (nI (f / 2 ^ 1))), (11, .long (tl_node (vb) (rw9 i))), (13, .int (nI (i))), (8, .int (nI (g))), (9, .long (va)), (3, .long (x)), (5, .long (y)), (0, .ref (bd 0))]) hx hb d_M_leads_216 hl (by decide) rfl (fun ls hl => ?_)
                          refine lv_iload hx hb d_M_leads_218 (lv_at hl 3 rfl) ?_
                          refine lv_iconst (v := (nI (1))) hx hb d_M_leads_220 (by decide) ?_
                          refine lv_ishr hx hb d_M_leads_221 ?_
                          refine lv_topi (nm_r (e' := (nI (g / 2 ^ 1))) (tl_shr (Nat.lt_of_le_of_lt (Nat.le_refl _) (by omega)) (by omega)) ?_)
                          refine lv_istore (lv' := [(8, .int (nI (g / 2 ^ 1))), (7, .int (nI (f / 2 ^ 1))), (11, .long (tl_node (vb) (rw9 i))), (13, .int (nI (i))), (9, .long (va)), (3, .long (x)), (5, .long (y)), (0, .ref (bd 0))]) hx hb d_M_leads_222 hl (by decide) rfl (fun ls hl => ?_)
                          refine lv_iinc (k := 3) (v := (nI (i + 1))) (lv' := [(13, .int (nI (i + 1))), (8, .int (nI (g / 2 ^ 1))), (7, .int (nI (f / 2 ^ 1))), (11, .long (tl_node (vb) (rw9 i))), (9, .long (va)), (3, .long (x)), (5, .long (y)), (0, .ref (bd 0))]) hx hb d_M_leads_224 hl rfl (by rw [lit1]; exact (nI_succ _).symm) (by decide) rfl (fun ls hl => ?_)
                          refine lv_goto (tgt := 115) hx hb d_M_leads_227 (by decide) ?_
                          exact ih115 (n115 - 1) _ (by omega) ⟨i + 1, (f / 2 ^ 1), (g / 2 ^ 1), (va), (tl_node (vb) (rw9 i)), lv_sub hl [0, 2, 1, 4, 3, 5, 6, 7] rfl, by omega, by omega, by omega, (Nat.le_trans (tl_div_le _ _) hf), (Nat.le_trans (tl_div_le _ _) hg), (by rw [← hq, show 1 + ol - i = (1 + ol - (i + 1)) + 1 by omega, tl_lead_f h126 hle, tl_lv_f hle])⟩
                        · -- 143 f
                          have hle := tl_left_t (f := f) (Or.inr h143)
                          refine lv_aload_n hx hb d_M_leads_146 rfl (lv_at hl 7 rfl) ?_
                          refine va_get (ci := 2) (v := .ref (bd 8)) (C := R_M) (T := F_M) (N := 18) hx hb hw iw_M hown hE.1 hP 0 rfl rfl 15 (by decide) (hw _ tl_m215) (fun _ h9 => h9) rfl d_M_leads_147 ?_
                          refine lv_iload hx hb d_M_leads_150 (lv_at hl 0 rfl) ?_
                          refine tl_lald (a := i) hx hb hE.1 hP 8 0 rfl rfl (by omega) (by decide) d_M_leads_152 ?_
                          refine lv_lload hx hb d_M_leads_153 (lv_at hl 3 rfl) ?_
                          refine tl_goL (v := (tl_node (rw9 i) (va))) (va_runS (As := [.long (rw9 i), .long (va)]) (rest := []) ⟨hx, hb, hml, hown, hw⟩ (c_M_node l (rw9 i) (va)) (⟨tl_cB hw tl_m256 tl_m3 tl_m254 dd_M_node rfl rfl ⟨Nat.le_of_ble_eq_true rfl, Nat.le_of_ble_eq_true rfl⟩, hw _ tl_m255⟩) (tl_pre0) rfl rfl hl.1 rfl (lv_room (Nat.le_of_ble_eq_true rfl)) d_M_leads_155 ⟨Nat.zero_le _, Nat.zero_le _⟩) ?_
                          refine lv_lstore (lv' := [(9, .long (tl_node (rw9 i) (va))), (13, .int (nI (i))), (7, .int (nI (f))), (8, .int (nI (g))), (11, .long (vb)), (3, .long (x)), (5, .long (y)), (0, .ref (bd 0))]) hx hb d_M_leads_158 hl (by decide) rfl (fun ls hl => ?_)
                          refine lv_aload_n hx hb d_M_leads_160 rfl (lv_at hl 7 rfl) ?_
                          refine va_get (ci := 2) (v := .ref (bd 8)) (C := R_M) (T := F_M) (N := 18) hx hb hw iw_M hown hE.1 hP 0 rfl rfl 15 (by decide) (hw _ tl_m215) (fun _ h9 => h9) rfl d_M_leads_161 ?_
                          refine lv_iload hx hb d_M_leads_164 (lv_at hl 1 rfl) ?_
                          refine tl_lald (a := i) hx hb hE.1 hP 8 0 rfl rfl (by omega) (by decide) d_M_leads_166 ?_
                          refine lv_lload hx hb d_M_leads_167 (lv_at hl 4 rfl) ?_
                          refine tl_goL (v := (tl_node (rw9 i) (vb))) (va_runS (As := [.long (rw9 i), .long (vb)]) (rest := []) ⟨hx, hb, hml, hown, hw⟩ (c_M_node l (rw9 i) (vb)) (⟨tl_cB hw tl_m256 tl_m3 tl_m254 dd_M_node rfl rfl ⟨Nat.le_of_ble_eq_true rfl, Nat.le_of_ble_eq_true rfl⟩, hw _ tl_m255⟩) (tl_pre0) rfl rfl hl.1 rfl (lv_room (Nat.le_of_ble_eq_true rfl)) d_M_leads_169 ⟨Nat.zero_le _, Nat.zero_le _⟩) ?_
                          refine lv_lstore (lv' := [(11, .long (tl_node (rw9 i) (vb))), (9, .long (tl_node (rw9 i) (va))), (13, .int (nI (i))), (7, .int (nI (f))), (8, .int (nI (g))), (3, .long (x)), (5, .long (y)), (0, .ref (bd 0))]) hx hb d_M_leads_172 hl (by decide) rfl (fun ls hl => ?_)
                          refine lv_iload hx hb d_M_leads_174 (lv_at hl 3 rfl) ?_
                          refine tl_goI (v := (nI (tl_tz f))) (va_runS (As := [.int (nI (f))]) (rest := []) ⟨hx, hb, hml, hown, hw⟩ (c_M_halvings l f (by omega)) (⟨tl_cB hw tl_m344 tl_m3 tl_m342 dd_M_halvings rfl rfl ⟨Nat.le_of_ble_eq_true rfl, Nat.le_of_ble_eq_true rfl⟩, hw _ tl_m343⟩) (tl_pre0) rfl rfl hl.1 rfl (lv_room (Nat.le_of_ble_eq_true rfl)) d_M_leads_176 ⟨Nat.zero_le _, Nat.zero_le _⟩) ?_
                          have htz := tl_tz_lt (x := f) (by omega)
                          refine lv_istore (lv' := [(14, .int (nI (tl_tz f))), (11, .long (tl_node (rw9 i) (vb))), (9, .long (tl_node (rw9 i) (va))), (13, .int (nI (i))), (7, .int (nI (f))), (8, .int (nI (g))), (3, .long (x)), (5, .long (y)), (0, .ref (bd 0))]) hx hb d_M_leads_179 hl (by decide) rfl (fun ls hl => ?_)
                          refine lv_iload hx hb d_M_leads_181 (lv_at hl 4 rfl) ?_
                          refine lv_iload hx hb d_M_leads_183 (lv_at hl 0 rfl) ?_
                          refine lv_ishr hx hb d_M_leads_185 ?_
                          refine lv_topi (nm_r (e' := (nI (f / 2 ^ (tl_tz f)))) (tl_shr (by omega) (by omega)) ?_)
                          refine lv_istore (lv' := [(7, .int (nI (f / 2 ^ (tl_tz f)))), (14, .int (nI (tl_tz f))), (11, .long (tl_node (rw9 i) (vb))), (9, .long (tl_node (rw9 i) (va))), (13, .int (nI (i))), (8, .int (nI (g))), (3, .long (x)), (5, .long (y)), (0, .ref (bd 0))]) hx hb d_M_leads_186 hl (by decide) rfl (fun ls hl => ?_)
                          refine lv_iload hx hb d_M_leads_188 (lv_at hl 5 rfl) ?_
                          refine lv_iload hx hb d_M_leads_190 (lv_at hl 1 rfl) ?_
                          refine lv_ishr hx hb d_M_leads_192 ?_
                          refine lv_topi (nm_r (e' := (nI (g / 2 ^ (tl_tz f)))) (tl_shr (by omega) (by omega)) ?_)
                          refine lv_istore (lv' := [(8, .int (nI (g / 2 ^ (tl_tz f)))), (7, .int (nI (f / 2 ^ (tl_tz f)))), (14, .int (nI (tl_tz f))), (11, .long (tl_node (rw9 i) (vb))), (9, .long (tl_node (rw9 i) (va))), (13, .int (nI (i))), (3, .long (x)), (5, .long (y)), (0, .ref (bd 0))]) hx hb d_M_leads_193 hl (by decide) rfl (fun ls hl => ?_)
                          refine lv_goto (tgt := 212) hx hb d_M_leads_195 (by decide) ?_
                          refine lv_iload hx hb d_M_leads_212 (lv_at hl 1 rfl) ?_
                          refine lv_iconst (v := (nI (1))) hx hb d_M_leads_214 (by decide) ?_
                          refine lv_ishr hx hb d_M_leads_215 ?_
                          refine lv_topi (nm_r (e' := (nI ((f / 2 ^ (tl_tz f)) / 2 ^ 1))) (tl_shr (Nat.lt_of_le_of_lt (tl_div_le _ _) (by omega)) (by omega)) ?_)
                          refine lv_istore (lv' := [(7, .int (nI ((f / 2 ^ (tl_tz f)) / 2 ^ 1))), (8, .int (nI (g / 2 ^ (tl_tz f)))), (14, .int (nI (tl_tz f))), (11, .long (tl_node (rw9 i) (vb))), (9, .long (tl_node (rw9 i) (va))), (13, .int (nI (i))), (3, .long (x)), (5, .long (y)), (0, .ref (bd 0))]) hx hb d_M_leads_216 hl (by decide) rfl (fun ls hl => ?_)
                          refine lv_iload hx hb d_M_leads_218 (lv_at hl 1 rfl) ?_
                          refine lv_iconst (v := (nI (1))) hx hb d_M_leads_220 (by decide) ?_
                          refine lv_ishr hx hb d_M_leads_221 ?_
                          refine lv_topi (nm_r (e' := (nI ((g / 2 ^ (tl_tz f)) / 2 ^ 1))) (tl_shr (Nat.lt_of_le_of_lt (tl_div_le _ _) (by omega)) (by omega)) ?_)
                          refine lv_istore (lv' := [(8, .int (nI ((g / 2 ^ (tl_tz f)) / 2 ^ 1))), (7, .int (nI ((f / 2 ^ (tl_tz f)) / 2 ^ 1))), (14, .int (nI (tl_tz f))), (11, .long (tl_node (rw9 i) (vb))), (9, .long (tl_node (rw9 i) (va))), (13, .int (nI (i))), (3, .long (x)), (5, .long (y)), (0, .ref (bd 0))]) hx hb d_M_leads_222 hl (by decide) rfl (fun ls hl => ?_)
                          refine lv_iinc (k := 5) (v := (nI (i + 1))) (lv' := [(13, .int (nI (i + 1))), (8, .int (nI ((g / 2 ^ (tl_tz f)) / 2 ^ 1))), (7, .int (nI ((f / 2 ^ (tl_tz f)) / 2 ^ 1))), (14, .int (nI (tl_tz f))), (11, .long (tl_node (rw9 i) (vb))), (9, .long (tl_node (rw9 i) (va))), (3, .long (x)), (5, .long (y)), (0, .ref (bd 0))]) hx hb d_M_leads_224 hl rfl (by rw [lit1]; exact (nI_succ _).symm) (by decide) rfl (fun ls hl => ?_)
                          refine lv_goto (tgt := 115) hx hb d_M_leads_227 (by decide) ?_
                          exact ih115 (n115 - 1) _ (by omega) ⟨i + 1, ((f / 2 ^ (tl_tz f)) / 2 ^ 1), ((g / 2 ^ (tl_tz f)) / 2 ^ 1), (tl_node (rw9 i) (va)), (tl_node (rw9 i) (vb)), lv_sub hl [0, 2, 1, 5, 4, 6, 7, 8] rfl, by omega, by omega, by omega, (Nat.le_trans (tl_div_le _ _) (Nat.le_trans (tl_div_le _ _) hf)), (Nat.le_trans (tl_div_le _ _) (Nat.le_trans (tl_div_le _ _) hg)), (by rw [← hq, show 1 + ol - i = (1 + ol - (i + 1)) + 1 by omega, tl_lead_t h126 hle, tl_lv_t hle, tl_dd f (tl_tz f), tl_dd g (tl_tz f)])⟩
                    · -- 126 f
                      refine lv_iconst (v := (nI (0))) hx hb d_M_leads_129 (by decide) ?_
                      have hqB : tl_ldA O ol (nI mm) (nI kk) x y = tl_ldB (tl_lead rw9 (1 + ol - 1) 1 ((mm - 1) / 2 ^ tl_tz mm) ((kk - 1) / 2 ^ tl_tz mm) (rw9 0) (rw9 0)) x y := by rw [hspB, ← tl_ldT_of (m := mm) (k := kk) (x := x) (y := y) hro, hr0]
                      refine lv_topi (nm_r (e' := tl_bi (tl_ldA O ol (nI (mm)) (nI (kk)) x y)) ((tl_bi0 (by rw [hqB, ← hq, show 1 + ol - i = (1 + ol - (i + 1)) + 1 by omega, tl_lead_no h126]; rfl))) ?_)
                      exact W.zret hx hb hr (tl_bi_nar _) (fun t9 ht9 _ => tl_endI hS (show tl_Y D cJ cI cZ bd (E, nf, T, L, sz, rt, dn, wm, cr, Lp, ol, O) _ from ⟨tf, hn, hs, cd, pf, pl, rw9, (1 + ol), wh, th, hI0, hP⟩) ht9) hS.2.2 d_M_leads_130
                · -- 78 f
                  refine lv_iload hx hb d_M_leads_81 (lv_at hl 0 rfl) ?_
                  refine lv_iconst (v := (nI (1))) hx hb d_M_leads_83 (by decide) ?_
                  refine lv_ishr hx hb d_M_leads_84 ?_
                  refine lv_topi (nm_r (e' := (nI ((mm - 1) / 2 ^ (j + 1)))) ((tl_shr (Nat.lt_of_le_of_lt (tl_div_le _ _) (by omega)) (by omega)).trans (congrArg nI (tl_dd _ _).symm)) ?_)
                  refine lv_istore (lv' := [(7, .int (nI ((mm - 1) / 2 ^ (j + 1)))), (8, .int (nI ((kk - 1) / 2 ^ j))), (3, .long (x)), (5, .long (y)), (0, .ref (bd 0))]) hx hb d_M_leads_85 hl (by decide) rfl (fun ls hl => ?_)
                  refine lv_iload hx hb d_M_leads_87 (lv_at hl 1 rfl) ?_
                  refine lv_iconst (v := (nI (1))) hx hb d_M_leads_89 (by decide) ?_
                  refine lv_ishr hx hb d_M_leads_90 ?_
                  refine lv_topi (nm_r (e' := (nI ((kk - 1) / 2 ^ (j + 1)))) ((tl_shr (Nat.lt_of_le_of_lt (tl_div_le _ _) (by omega)) (by omega)).trans (congrArg nI (tl_dd _ _).symm)) ?_)
                  refine lv_istore (lv' := [(8, .int (nI ((kk - 1) / 2 ^ (j + 1)))), (7, .int (nI ((mm - 1) / 2 ^ (j + 1)))), (3, .long (x)), (5, .long (y)), (0, .ref (bd 0))]) hx hb d_M_leads_91 hl (by decide) rfl (fun ls hl => ?_)
                  refine lv_goto (tgt := 73) hx hb d_M_leads_93 (by decide) ?_
                  have hj30 := tl_j30 (by omega) (by omega) (tl_zs hz9 (tl_odd (by omega) hz9 h78))
                  exact ih73 (n73 - 1) _ (by omega) ⟨j + 1, lv_sub hl [1, 0, 2, 3, 4] rfl, by omega, by omega, tl_zs hz9 (tl_odd (by omega) hz9 h78)⟩
              · -- 58 f
                exact absurd h58 (by omega)
            · -- power of two: false
              have hspB : tl_ldA O ol (nI mm) (nI kk) x y = (if ol = 0 then false else tl_ldF O ol mm kk x y) := by rw [hsp, if_neg g25, hp2]; rfl
              refine lv_aload_n hx hb d_M_leads_48 rfl (lv_at hl 0 rfl) ?_
              refine lv_iload_n hx hb d_M_leads_49 rfl (lv_at hl 1 rfl) ?_
              refine lv_lload_n hx hb d_M_leads_50 rfl (lv_at hl 3 rfl) ?_
              refine tl_doV (va_runV (As := [.int (nI (mm)), .long (x)]) (rest := []) ⟨hx, hb, hml, hown, hw⟩ (c_M_buildRow_f l D cJ cI cG cZ bd E nf tf hn hs rt dn wm cr cd pf pl O ol rw rl wh th (nI (mm)) x hap hol hp2) (⟨tl_cB hw tl_m351 tl_m3 tl_m349 dd_M_buildRow rfl rfl ⟨Nat.le_of_ble_eq_true rfl, Nat.le_of_ble_eq_true rfl⟩, hw _ tl_m350, hw _ tl_m379⟩) (tl_preV hE hP (va_recv (q0 := 0) (ci := 2) (q := (R_M, F_M, 18)) hE.1 hP rfl rfl)) rfl rfl hl.1 rfl (lv_room (Nat.le_of_ble_eq_true rfl)) d_M_leads_51 ⟨Nat.zero_le _, Nat.zero_le _⟩) hS (fun _ h => h) (fun H locs hX hS _ => ?_)
              obtain ⟨rw9, hro, hP⟩ := hX
              have hP : va_P D tl_cl (tl_V cJ cI cZ bd E nf tf hn hs rt dn wm cr cd pf pl O ol rw9 (0 + ol) wh th) H := hP
              refine lv_aload_n hx hb d_M_leads_54 rfl (lv_at hl 0 rfl) ?_
              refine va_get (ci := 2) (v := .int (nI (0 + ol))) (C := R_M) (T := F_M) (N := 18) hx hb hw iw_M hown hE.1 hP 0 rfl rfl 14 (by decide) (hw _ tl_m214) (fun _ h9 => h9) rfl d_M_leads_55 ?_
              refine tl_zne (tgt := 63) (by omega) hx hb d_M_leads_58 (by decide) (fun h58 => ?_) (fun h58 => ?_)
              · -- 58 t
                refine lv_iload_n hx hb d_M_leads_63 rfl (lv_at hl 1 rfl) ?_
                refine lv_iconst (v := (nI (1))) hx hb d_M_leads_64 (by decide) ?_
                refine lv_isub hx hb d_M_leads_65 ?_
                refine lv_topi (nm_r (e' := (nI (mm - 1))) (pk_sub (by omega)) ?_)
                refine lv_istore (lv' := [(7, .int (nI (mm - 1))), (0, .ref (bd 0)), (1, .int (nI (mm))), (2, .int (nI (kk))), (3, .long (x)), (5, .long (y))]) hx hb d_M_leads_66 hl (by decide) rfl (fun ls hl => ?_)
                refine lv_iload_n hx hb d_M_leads_68 rfl (lv_at hl 3 rfl) ?_
                refine lv_iconst (v := (nI (1))) hx hb d_M_leads_69 (by decide) ?_
                refine lv_isub hx hb d_M_leads_70 ?_
                refine lv_topi (nm_r (e' := (nI (kk - 1))) (pk_sub (by omega)) ?_)
                refine lv_istore (lv' := [(8, .int (nI (kk - 1))), (7, .int (nI (mm - 1))), (0, .ref (bd 0)), (1, .int (nI (mm))), (2, .int (nI (kk))), (3, .long (x)), (5, .long (y))]) hx hb d_M_leads_71 hl (by decide) rfl (fun ls hl => ?_)
                refine tl_loopR (fun n73 ls => ∃ (j : Nat), lv_has ls 15 [(7, .int (nI ((mm - 1) / 2 ^ j))), (8, .int (nI ((kk - 1) / 2 ^ j))), (3, .long (x)), (5, .long (y)), (0, .ref (bd 0))] ∧ (j ≤ 30) ∧ (n73 = 31 - j) ∧ (∀ i, i < j → mm / 2 ^ i % 2 = 0)) (fun n73 ls hI ih73 => ?_) 31 _ ⟨0, lv_sub hl [1, 0, 5, 6, 2] (by rw [Nat.pow_zero, Nat.div_one, Nat.div_one]; rfl), by omega, by omega, fun j hj => absurd hj (Nat.not_lt_zero _)⟩
                obtain ⟨j, hl, hj, hm7, hz9⟩ := hI
                refine lv_iload hx hb d_M_leads_73 (lv_at hl 0 rfl) ?_
                refine lv_iconst (v := (nI (1))) hx hb d_M_leads_75 (by decide) ?_
                refine lv_iand hx hb d_M_leads_76 ?_
                refine lv_topi (nm_r (e' := (nI ((mm - 1) / 2 ^ j % 2))) (tl_and1 (Nat.lt_of_le_of_lt (tl_div_le _ _) (by omega))) ?_)
                refine lv_iconst (v := (nI (1))) hx hb d_M_leads_77 (by decide) ?_
                refine tl_cne (tgt := 96) (by omega) (by omega) hx hb d_M_leads_78 (by decide) (fun h78 => ?_) (fun h78 => ?_)
                · -- 78 t
                  have hjt : j = tl_tz mm := tl_tz_is (by omega) (by omega) (tl_even (by omega) hz9 h78) hz9
                  subst hjt
                  refine lv_aload_n hx hb d_M_leads_96 rfl (lv_at hl 4 rfl) ?_
                  refine va_get (ci := 2) (v := .ref (bd 8)) (C := R_M) (T := F_M) (N := 18) hx hb hw iw_M hown hE.1 hP 0 rfl rfl 15 (by decide) (hw _ tl_m215) (fun _ h9 => h9) rfl d_M_leads_97 ?_
                  refine lv_iconst (v := (nI (0))) hx hb d_M_leads_100 (by decide) ?_
                  refine tl_lald (a := 0) hx hb hE.1 hP 8 0 rfl rfl (by omega) (by decide) d_M_leads_101 ?_
                  refine lv_lstore (lv' := [(9, .long (rw9 0)), (7, .int (nI ((mm - 1) / 2 ^ tl_tz mm))), (8, .int (nI ((kk - 1) / 2 ^ tl_tz mm))), (3, .long (x)), (5, .long (y)), (0, .ref (bd 0))]) hx hb d_M_leads_102 hl (by decide) rfl (fun ls hl => ?_)
                  refine lv_aload_n hx hb d_M_leads_104 rfl (lv_at hl 5 rfl) ?_
                  refine va_get (ci := 2) (v := .ref (bd 8)) (C := R_M) (T := F_M) (N := 18) hx hb hw iw_M hown hE.1 hP 0 rfl rfl 15 (by decide) (hw _ tl_m215) (fun _ h9 => h9) rfl d_M_leads_105 ?_
                  refine lv_iconst (v := (nI (0))) hx hb d_M_leads_108 (by decide) ?_
                  refine tl_lald (a := 0) hx hb hE.1 hP 8 0 rfl rfl (by omega) (by decide) d_M_leads_109 ?_
                  refine lv_lstore (lv' := [(11, .long (rw9 0)), (9, .long (rw9 0)), (7, .int (nI ((mm - 1) / 2 ^ tl_tz mm))), (8, .int (nI ((kk - 1) / 2 ^ tl_tz mm))), (3, .long (x)), (5, .long (y)), (0, .ref (bd 0))]) hx hb d_M_leads_110 hl (by decide) rfl (fun ls hl => ?_)
                  refine lv_iconst (v := (nI (1))) hx hb d_M_leads_112 (by decide) ?_
                  refine lv_istore (lv' := [(13, .int (nI (1))), (11, .long (rw9 0)), (9, .long (rw9 0)), (7, .int (nI ((mm - 1) / 2 ^ tl_tz mm))), (8, .int (nI ((kk - 1) / 2 ^ tl_tz mm))), (3, .long (x)), (5, .long (y)), (0, .ref (bd 0))]) hx hb d_M_leads_113 hl (by decide) rfl (fun ls hl => ?_)
                  refine tl_loopR (fun n115 ls => ∃ (i : Nat) (f : Nat) (g : Nat) (va : Int64) (vb : Int64), lv_has ls 15 [(13, .int (nI (i))), (7, .int (nI (f))), (8, .int (nI (g))), (9, .long (va)), (11, .long (vb)), (3, .long (x)), (5, .long (y)), (0, .ref (bd 0))] ∧ (i ≤ 0 + ol) ∧ (1 ≤ i) ∧ (n115 = 0 + ol - i) ∧ (f ≤ 1000000) ∧ (g ≤ 1000000) ∧ (tl_lead rw9 (0 + ol - i) i f g va vb = tl_lead rw9 (0 + ol - 1) 1 ((mm - 1) / 2 ^ tl_tz mm) ((kk - 1) / 2 ^ tl_tz mm) (rw9 0) (rw9 0))) (fun n115 ls hI ih115 => ?_) (0 + ol - 1) _ ⟨1, (mm - 1) / 2 ^ tl_tz mm, (kk - 1) / 2 ^ tl_tz mm, rw9 0, rw9 0, lv_sub hl [0, 3, 4, 2, 1, 5, 6, 7] rfl, by omega, by omega, by omega, Nat.le_trans (tl_div_le _ _) (by omega), Nat.le_trans (tl_div_le _ _) (by omega), rfl⟩
                  obtain ⟨i, f, g, va, vb, hl, hi, hi1, hm, hf, hg, hq⟩ := hI
                  refine lv_iload hx hb d_M_leads_115 (lv_at hl 0 rfl) ?_
                  refine lv_aload_n hx hb d_M_leads_117 rfl (lv_at hl 7 rfl) ?_
                  refine va_get (ci := 2) (v := .int (nI (0 + ol))) (C := R_M) (T := F_M) (N := 18) hx hb hw iw_M hown hE.1 hP 0 rfl rfl 14 (by decide) (hw _ tl_m214) (fun _ h9 => h9) rfl d_M_leads_118 ?_
                  refine tl_cge (tgt := 230) (by omega) (by omega) hx hb d_M_leads_121 (by decide) (fun h121 => ?_) (fun h121 => ?_)
                  · -- 121 t
                    refine lv_iload hx hb d_M_leads_230 (lv_at hl 2 rfl) ?_
                    refine tl_zne (tgt := 254) (by omega) hx hb d_M_leads_232 (by decide) (fun h232 => ?_) (fun h232 => ?_)
                    · -- 232 t
                      refine lv_iconst (v := (nI (0))) hx hb d_M_leads_254 (by decide) ?_
                      have hqB : tl_ldA O ol (nI mm) (nI kk) x y = tl_ldB (tl_lead rw9 (0 + ol - 1) 1 ((mm - 1) / 2 ^ tl_tz mm) ((kk - 1) / 2 ^ tl_tz mm) (rw9 0) (rw9 0)) x y := by rw [hspB, if_neg (by omega), ← tl_ldF_of (m := mm) (k := kk) (x := x) (y := y) (by omega) hro]
                      refine lv_topi (nm_r (e' := tl_bi (tl_ldA O ol (nI (mm)) (nI (kk)) x y)) ((by first | exact tl_bi1 (by rw [hqB, ← hq, show 0 + ol - i = 0 by omega, tl_lead_0]; unfold tl_ldB; rw [h232, h239, h247]; simp) | exact tl_bi0 (by rw [hqB, ← hq, show 0 + ol - i = 0 by omega, tl_lead_0]; unfold tl_ldB; rw [h232, h239]; simp [h247]) | exact tl_bi0 (by rw [hqB, ← hq, show 0 + ol - i = 0 by omega, tl_lead_0]; unfold tl_ldB; rw [h232]; simp [h239]) | exact tl_bi0 (by rw [hqB, ← hq, show 0 + ol - i = 0 by omega, tl_lead_0]; unfold tl_ldB; simp [h232]))) ?_)
                      exact W.zret hx hb hr (tl_bi_nar _) (fun t9 ht9 _ => tl_endI hS (show tl_Y D cJ cI cZ bd (E, nf, T, L, sz, rt, dn, wm, cr, Lp, ol, O) _ from ⟨tf, hn, hs, cd, pf, pl, rw9, (0 + ol), wh, th, hI0, hP⟩) ht9) hS.2.2 d_M_leads_255
                    · -- 232 f
                      refine lv_lload hx hb d_M_leads_235 (lv_at hl 3 rfl) ?_
                      refine lv_lload_n hx hb d_M_leads_237 rfl (lv_at hl 5 rfl) ?_
                      refine tl_lne (tgt := 254) hx hb d_M_leads_238 d_M_leads_239 (by decide) (fun h239 => ?_) (fun h239 => ?_)
                      · -- 239 t
                        refine lv_iconst (v := (nI (0))) hx hb d_M_leads_254 (by decide) ?_
                        have hqB : tl_ldA O ol (nI mm) (nI kk) x y = tl_ldB (tl_lead rw9 (0 + ol - 1) 1 ((mm - 1) / 2 ^ tl_tz mm) ((kk - 1) / 2 ^ tl_tz mm) (rw9 0) (rw9 0)) x y := by rw [hspB, if_neg (by omega), ← tl_ldF_of (m := mm) (k := kk) (x := x) (y := y) (by omega) hro]
                        refine lv_topi (nm_r (e' := tl_bi (tl_ldA O ol (nI (mm)) (nI (kk)) x y)) ((by first | exact tl_bi1 (by rw [hqB, ← hq, show 0 + ol - i = 0 by omega, tl_lead_0]; unfold tl_ldB; rw [h232, h239, h247]; simp) | exact tl_bi0 (by rw [hqB, ← hq, show 0 + ol - i = 0 by omega, tl_lead_0]; unfold tl_ldB; rw [h232, h239]; simp [h247]) | exact tl_bi0 (by rw [hqB, ← hq, show 0 + ol - i = 0 by omega, tl_lead_0]; unfold tl_ldB; rw [h232]; simp [h239]) | exact tl_bi0 (by rw [hqB, ← hq, show 0 + ol - i = 0 by omega, tl_lead_0]; unfold tl_ldB; simp [h232]))) ?_)
                        exact W.zret hx hb hr (tl_bi_nar _) (fun t9 ht9 _ => tl_endI hS (show tl_Y D cJ cI cZ bd (E, nf, T, L, sz, rt, dn, wm, cr, Lp, ol, O) _ from ⟨tf, hn, hs, cd, pf, pl, rw9, (0 + ol), wh, th, hI0, hP⟩) ht9) hS.2.2 d_M_leads_255
                      · -- 239 f
                        refine lv_lload hx hb d_M_leads_242 (lv_at hl 4 rfl) ?_
                        refine lv_lload hx hb d_M_leads_244 (lv_at hl 6 rfl) ?_
                        refine tl_lne (tgt := 254) hx hb d_M_leads_246 d_M_leads_247 (by decide) (fun h247 => ?_) (fun h247 => ?_)
                        · -- 247 t
                          refine lv_iconst (v := (nI (0))) hx hb d_M_leads_254 (by decide) ?_
                          have hqB : tl_ldA O ol (nI mm) (nI kk) x y = tl_ldB (tl_lead rw9 (0 + ol - 1) 1 ((mm - 1) / 2 ^ tl_tz mm) ((kk - 1) / 2 ^ tl_tz mm) (rw9 0) (rw9 0)) x y := by rw [hspB, if_neg (by omega), ← tl_ldF_of (m := mm) (k := kk) (x := x) (y := y) (by omega) hro]
                          refine lv_topi (nm_r (e' := tl_bi (tl_ldA O ol (nI (mm)) (nI (kk)) x y)) ((by first | exact tl_bi1 (by rw [hqB, ← hq, show 0 + ol - i = 0 by omega, tl_lead_0]; unfold tl_ldB; rw [h232, h239, h247]; simp) | exact tl_bi0 (by rw [hqB, ← hq, show 0 + ol - i = 0 by omega, tl_lead_0]; unfold tl_ldB; rw [h232, h239]; simp [h247]) | exact tl_bi0 (by rw [hqB, ← hq, show 0 + ol - i = 0 by omega, tl_lead_0]; unfold tl_ldB; rw [h232]; simp [h239]) | exact tl_bi0 (by rw [hqB, ← hq, show 0 + ol - i = 0 by omega, tl_lead_0]; unfold tl_ldB; simp [h232]))) ?_)
                          exact W.zret hx hb hr (tl_bi_nar _) (fun t9 ht9 _ => tl_endI hS (show tl_Y D cJ cI cZ bd (E, nf, T, L, sz, rt, dn, wm, cr, Lp, ol, O) _ from ⟨tf, hn, hs, cd, pf, pl, rw9, (0 + ol), wh, th, hI0, hP⟩) ht9) hS.2.2 d_M_leads_255
                        · -- 247 f
                          refine lv_iconst (v := (nI (1))) hx hb d_M_leads_250 (by decide) ?_
                          refine lv_goto (tgt := 255) hx hb d_M_leads_251 (by decide) ?_
                          have hqB : tl_ldA O ol (nI mm) (nI kk) x y = tl_ldB (tl_lead rw9 (0 + ol - 1) 1 ((mm - 1) / 2 ^ tl_tz mm) ((kk - 1) / 2 ^ tl_tz mm) (rw9 0) (rw9 0)) x y := by rw [hspB, if_neg (by omega), ← tl_ldF_of (m := mm) (k := kk) (x := x) (y := y) (by omega) hro]
                          refine lv_topi (nm_r (e' := tl_bi (tl_ldA O ol (nI (mm)) (nI (kk)) x y)) ((by first | exact tl_bi1 (by rw [hqB, ← hq, show 0 + ol - i = 0 by omega, tl_lead_0]; unfold tl_ldB; rw [h232, h239, h247]; simp) | exact tl_bi0 (by rw [hqB, ← hq, show 0 + ol - i = 0 by omega, tl_lead_0]; unfold tl_ldB; rw [h232, h239]; simp [h247]) | exact tl_bi0 (by rw [hqB, ← hq, show 0 + ol - i = 0 by omega, tl_lead_0]; unfold tl_ldB; rw [h232]; simp [h239]) | exact tl_bi0 (by rw [hqB, ← hq, show 0 + ol - i = 0 by omega, tl_lead_0]; unfold tl_ldB; simp [h232]))) ?_)
                          exact W.zret hx hb hr (tl_bi_nar _) (fun t9 ht9 _ => tl_endI hS (show tl_Y D cJ cI cZ bd (E, nf, T, L, sz, rt, dn, wm, cr, Lp, ol, O) _ from ⟨tf, hn, hs, cd, pf, pl, rw9, (0 + ol), wh, th, hI0, hP⟩) ht9) hS.2.2 d_M_leads_255
                  · -- 121 f
                    refine lv_iload hx hb d_M_leads_124 (lv_at hl 2 rfl) ?_
                    refine tl_zne (tgt := 131) (by omega) hx hb d_M_leads_126 (by decide) (fun h126 => ?_) (fun h126 => ?_)
                    · -- 126 t
                      refine lv_iload hx hb d_M_leads_131 (lv_at hl 1 rfl) ?_
                      refine lv_iconst (v := (nI (1))) hx hb d_M_leads_133 (by decide) ?_
                      refine lv_iand hx hb d_M_leads_134 ?_
                      refine lv_topi (nm_r (e' := (nI (f % 2))) (tl_and1 (by omega)) ?_)
                      refine lv_iconst (v := (nI (1))) hx hb d_M_leads_135 (by decide) ?_
                      refine tl_ceq (tgt := 146) (by omega) (by omega) hx hb d_M_leads_136 (by decide) (fun h136 => ?_) (fun h136 => ?_)
                      · -- 136 t
                        have hle := tl_left_t (g := g) (Or.inl h136)
                        refine lv_aload_n hx hb d_M_leads_146 rfl (lv_at hl 7 rfl) ?_
                        refine va_get (ci := 2) (v := .ref (bd 8)) (C := R_M) (T := F_M) (N := 18) hx hb hw iw_M hown hE.1 hP 0 rfl rfl 15 (by decide) (hw _ tl_m215) (fun _ h9 => h9) rfl d_M_leads_147 ?_
                        refine lv_iload hx hb d_M_leads_150 (lv_at hl 0 rfl) ?_
                        refine tl_lald (a := i) hx hb hE.1 hP 8 0 rfl rfl (by omega) (by decide) d_M_leads_152 ?_
                        refine lv_lload hx hb d_M_leads_153 (lv_at hl 3 rfl) ?_
                        refine tl_goL (v := (tl_node (rw9 i) (va))) (va_runS (As := [.long (rw9 i), .long (va)]) (rest := []) ⟨hx, hb, hml, hown, hw⟩ (c_M_node l (rw9 i) (va)) (⟨tl_cB hw tl_m256 tl_m3 tl_m254 dd_M_node rfl rfl ⟨Nat.le_of_ble_eq_true rfl, Nat.le_of_ble_eq_true rfl⟩, hw _ tl_m255⟩) (tl_pre0) rfl rfl hl.1 rfl (lv_room (Nat.le_of_ble_eq_true rfl)) d_M_leads_155 ⟨Nat.zero_le _, Nat.zero_le _⟩) ?_
                        refine lv_lstore (lv' := [(9, .long (tl_node (rw9 i) (va))), (13, .int (nI (i))), (7, .int (nI (f))), (8, .int (nI (g))), (11, .long (vb)), (3, .long (x)), (5, .long (y)), (0, .ref (bd 0))]) hx hb d_M_leads_158 hl (by decide) rfl (fun ls hl => ?_)
                        refine lv_aload_n hx hb d_M_leads_160 rfl (lv_at hl 7 rfl) ?_
                        refine va_get (ci := 2) (v := .ref (bd 8)) (C := R_M) (T := F_M) (N := 18) hx hb hw iw_M hown hE.1 hP 0 rfl rfl 15 (by decide) (hw _ tl_m215) (fun _ h9 => h9) rfl d_M_leads_161 ?_
                        refine lv_iload hx hb d_M_leads_164 (lv_at hl 1 rfl) ?_
                        refine tl_lald (a := i) hx hb hE.1 hP 8 0 rfl rfl (by omega) (by decide) d_M_leads_166 ?_
                        refine lv_lload hx hb d_M_leads_167 (lv_at hl 4 rfl) ?_
                        refine tl_goL (v := (tl_node (rw9 i) (vb))) (va_runS (As := [.long (rw9 i), .long (vb)]) (rest := []) ⟨hx, hb, hml, hown, hw⟩ (c_M_node l (rw9 i) (vb)) (⟨tl_cB hw tl_m256 tl_m3 tl_m254 dd_M_node rfl rfl ⟨Nat.le_of_ble_eq_true rfl, Nat.le_of_ble_eq_true rfl⟩, hw _ tl_m255⟩) (tl_pre0) rfl rfl hl.1 rfl (lv_room (Nat.le_of_ble_eq_true rfl)) d_M_leads_169 ⟨Nat.zero_le _, Nat.zero_le _⟩) ?_
                        refine lv_lstore (lv' := [(11, .long (tl_node (rw9 i) (vb))), (9, .long (tl_node (rw9 i) (va))), (13, .int (nI (i))), (7, .int (nI (f))), (8, .int (nI (g))), (3, .long (x)), (5, .long (y)), (0, .ref (bd 0))]) hx hb d_M_leads_172 hl (by decide) rfl (fun ls hl => ?_)
                        refine lv_iload hx hb d_M_leads_174 (lv_at hl 3 rfl) ?_
                        refine tl_goI (v := (nI (tl_tz f))) (va_runS (As := [.int (nI (f))]) (rest := []) ⟨hx, hb, hml, hown, hw⟩ (c_M_halvings l f (by omega)) (⟨tl_cB hw tl_m344 tl_m3 tl_m342 dd_M_halvings rfl rfl ⟨Nat.le_of_ble_eq_true rfl, Nat.le_of_ble_eq_true rfl⟩, hw _ tl_m343⟩) (tl_pre0) rfl rfl hl.1 rfl (lv_room (Nat.le_of_ble_eq_true rfl)) d_M_leads_176 ⟨Nat.zero_le _, Nat.zero_le _⟩) ?_
                        have htz := tl_tz_lt (x := f) (by omega)
                        refine lv_istore (lv' := [(14, .int (nI (tl_tz f))), (11, .long (tl_node (rw9 i) (vb))), (9, .long (tl_node (rw9 i) (va))), (13, .int (nI (i))), (7, .int (nI (f))), (8, .int (nI (g))), (3, .long (x)), (5, .long (y)), (0, .ref (bd 0))]) hx hb d_M_leads_179 hl (by decide) rfl (fun ls hl => ?_)
                        refine lv_iload hx hb d_M_leads_181 (lv_at hl 4 rfl) ?_
                        refine lv_iload hx hb d_M_leads_183 (lv_at hl 0 rfl) ?_
                        refine lv_ishr hx hb d_M_leads_185 ?_
                        refine lv_topi (nm_r (e' := (nI (f / 2 ^ (tl_tz f)))) (tl_shr (by omega) (by omega)) ?_)
                        refine lv_istore (lv' := [(7, .int (nI (f / 2 ^ (tl_tz f)))), (14, .int (nI (tl_tz f))), (11, .long (tl_node (rw9 i) (vb))), (9, .long (tl_node (rw9 i) (va))), (13, .int (nI (i))), (8, .int (nI (g))), (3, .long (x)), (5, .long (y)), (0, .ref (bd 0))]) hx hb d_M_leads_186 hl (by decide) rfl (fun ls hl => ?_)
                        refine lv_iload hx hb d_M_leads_188 (lv_at hl 5 rfl) ?_
                        refine lv_iload hx hb d_M_leads_190 (lv_at hl 1 rfl) ?_
                        refine lv_ishr hx hb d_M_leads_192 ?_
                        refine lv_topi (nm_r (e' := (nI (g / 2 ^ (tl_tz f)))) (tl_shr (by omega) (by omega)) ?_)
                        refine lv_istore (lv' := [(8, .int (nI (g / 2 ^ (tl_tz f)))), (7, .int (nI (f / 2 ^ (tl_tz f)))), (14, .int (nI (tl_tz f))), (11, .long (tl_node (rw9 i) (vb))), (9, .long (tl_node (rw9 i) (va))), (13, .int (nI (i))), (3, .long (x)), (5, .long (y)), (0, .ref (bd 0))]) hx hb d_M_leads_193 hl (by decide) rfl (fun ls hl => ?_)
                        refine lv_goto (tgt := 212) hx hb d_M_leads_195 (by decide) ?_
                        refine lv_iload hx hb d_M_leads_212 (lv_at hl 1 rfl) ?_
                        refine lv_iconst (v := (nI (1))) hx hb d_M_leads_214 (by decide) ?_
                        refine lv_ishr hx hb d_M_leads_215 ?_
                        refine lv_topi (nm_r (e' := (nI ((f / 2 ^ (tl_tz f)) / 2 ^ 1))) (tl_shr (Nat.lt_of_le_of_lt (tl_div_le _ _) (by omega)) (by omega)) ?_)
                        refine lv_istore (lv' := [(7, .int (nI ((f / 2 ^ (tl_tz f)) / 2 ^ 1))), (8, .int (nI (g / 2 ^ (tl_tz f)))), (14, .int (nI (tl_tz f))), (11, .long (tl_node (rw9 i) (vb))), (9, .long (tl_node (rw9 i) (va))), (13, .int (nI (i))), (3, .long (x)), (5, .long (y)), (0, .ref (bd 0))]) hx hb d_M_leads_216 hl (by decide) rfl (fun ls hl => ?_)
                        refine lv_iload hx hb d_M_leads_218 (lv_at hl 1 rfl) ?_
                        refine lv_iconst (v := (nI (1))) hx hb d_M_leads_220 (by decide) ?_
                        refine lv_ishr hx hb d_M_leads_221 ?_
                        refine lv_topi (nm_r (e' := (nI ((g / 2 ^ (tl_tz f)) / 2 ^ 1))) (tl_shr (Nat.lt_of_le_of_lt (tl_div_le _ _) (by omega)) (by omega)) ?_)
                        refine lv_istore (lv' := [(8, .int (nI ((g / 2 ^ (tl_tz f)) / 2 ^ 1))), (7, .int (nI ((f / 2 ^ (tl_tz f)) / 2 ^ 1))), (14, .int (nI (tl_tz f))), (11, .long (tl_node (rw9 i) (vb))), (9, .long (tl_node (rw9 i) (va))), (13, .int (nI (i))), (3, .long (x)), (5, .long (y)), (0, .ref (bd 0))]) hx hb d_M_leads_222 hl (by decide) rfl (fun ls hl => ?_)
                        refine lv_iinc (k := 5) (v := (nI (i + 1))) (lv' := [(13, .int (nI (i + 1))), (8, .int (nI ((g / 2 ^ (tl_tz f)) / 2 ^ 1))), (7, .int (nI ((f / 2 ^ (tl_tz f)) / 2 ^ 1))), (14, .int (nI (tl_tz f))), (11, .long (tl_node (rw9 i) (vb))), (9, .long (tl_node (rw9 i) (va))), (3, .long (x)), (5, .long (y)), (0, .ref (bd 0))]) hx hb d_M_leads_224 hl rfl (by rw [lit1]; exact (nI_succ _).symm) (by decide) rfl (fun ls hl => ?_)
                        refine lv_goto (tgt := 115) hx hb d_M_leads_227 (by decide) ?_
                        exact ih115 (n115 - 1) _ (by omega) ⟨i + 1, ((f / 2 ^ (tl_tz f)) / 2 ^ 1), ((g / 2 ^ (tl_tz f)) / 2 ^ 1), (tl_node (rw9 i) (va)), (tl_node (rw9 i) (vb)), lv_sub hl [0, 2, 1, 5, 4, 6, 7, 8] rfl, by omega, by omega, by omega, (Nat.le_trans (tl_div_le _ _) (Nat.le_trans (tl_div_le _ _) hf)), (Nat.le_trans (tl_div_le _ _) (Nat.le_trans (tl_div_le _ _) hg)), (by rw [← hq, show 0 + ol - i = (0 + ol - (i + 1)) + 1 by omega, tl_lead_t h126 hle, tl_lv_t hle, tl_dd f (tl_tz f), tl_dd g (tl_tz f)])⟩
                      · -- 136 f
                        refine lv_iload hx hb d_M_leads_139 (lv_at hl 1 rfl) ?_
                        refine lv_iload hx hb d_M_leads_141 (lv_at hl 2 rfl) ?_
                        refine tl_cne (tgt := 198) (by omega) (by omega) hx hb d_M_leads_143 (by decide) (fun h143 => ?_) (fun h143 => ?_)
                        · -- 143 t
                          have hle := tl_left_f h136 h143
                          refine lv_lload hx hb d_M_leads_198 (lv_at hl 4 rfl) ?_
                          refine lv_aload_n hx hb d_M_leads_200 rfl (lv_at hl 7 rfl) ?_
                          refine va_get (ci := 2) (v := .ref (bd 8)) (C := R_M) (T := F_M) (N := 18) hx hb hw iw_M hown hE.1 hP 0 rfl rfl 15 (by decide) (hw _ tl_m215) (fun _ h9 => h9) rfl d_M_leads_201 ?_
                          refine lv_iload hx hb d_M_leads_204 (lv_at hl 0 rfl) ?_
                          refine tl_lald (a := i) hx hb hE.1 hP 8 0 rfl rfl (by omega) (by decide) d_M_leads_206 ?_
                          refine tl_goL (v := (tl_node (vb) (rw9 i))) (va_runS (As := [.long (vb), .long (rw9 i)]) (rest := []) ⟨hx, hb, hml, hown, hw⟩ (c_M_node l (vb) (rw9 i)) (⟨tl_cB hw tl_m256 tl_m3 tl_m254 dd_M_node rfl rfl ⟨Nat.le_of_ble_eq_true rfl, Nat.le_of_ble_eq_true rfl⟩, hw _ tl_m255⟩) (tl_pre0) rfl rfl hl.1 rfl (lv_room (Nat.le_of_ble_eq_true rfl)) d_M_leads_207 ⟨Nat.zero_le _, Nat.zero_le _⟩) ?_
                          refine lv_lstore (lv' := [(11, .long (tl_node (vb) (rw9 i))), (13, .int (nI (i))), (7, .int (nI (f))), (8, .int (nI (g))), (9, .long (va)), (3, .long (x)), (5, .long (y)), (0, .ref (bd 0))]) hx hb d_M_leads_210 hl (by decide) rfl (fun ls hl => ?_)
                          refine lv_iload hx hb d_M_leads_212 (lv_at hl 2 rfl) ?_
                          refine lv_iconst (v := (nI (1))) hx hb d_M_leads_214 (by decide) ?_
                          refine lv_ishr hx hb d_M_leads_215 ?_
                          refine lv_topi (nm_r (e' := (nI (f / 2 ^ 1))) (tl_shr (Nat.lt_of_le_of_lt (Nat.le_refl _) (by omega)) (by omega)) ?_)
                          refine lv_istore (lv' := [(7, .int (nI (f / 2 ^ 1))), (11, .long (tl_node (vb) (rw9 i))), (13, .int (nI (i))), (8, .int (nI (g))), (9, .long (va)), (3, .long (x)), (5, .long (y)), (0, .ref (bd 0))]) hx hb d_M_leads_216 hl (by decide) rfl (fun ls hl => ?_)
                          refine lv_iload hx hb d_M_leads_218 (lv_at hl 3 rfl) ?_
                          refine lv_iconst (v := (nI (1))) hx hb d_M_leads_220 (by decide) ?_
                          refine lv_ishr hx hb d_M_leads_221 ?_
                          refine lv_topi (nm_r (e' := (nI (g / 2 ^ 1))) (tl_shr (Nat.lt_of_le_of_lt (Nat.le_refl _) (by omega)) (by omega)) ?_)
                          refine lv_istore (lv' := [(8, .int (nI (g / 2 ^ 1))), (7, .int (nI (f / 2 ^ 1))), (11, .long (tl_node (vb) (rw9 i))), (13, .int (nI (i))), (9, .long (va)), (3, .long (x)), (5, .long (y)), (0, .ref (bd 0))]) hx hb d_M_leads_222 hl (by decide) rfl (fun ls hl => ?_)
                          refine lv_iinc (k := 3) (v := (nI (i + 1))) (lv' := [(13, .int (nI (i + 1))), (8, .int (nI (g / 2 ^ 1))), (7, .int (nI (f / 2 ^ 1))), (11, .long (tl_node (vb) (rw9 i))), (9, .long (va)), (3, .long (x)), (5, .long (y)), (0, .ref (bd 0))]) hx hb d_M_leads_224 hl rfl (by rw [lit1]; exact (nI_succ _).symm) (by decide) rfl (fun ls hl => ?_)
                          refine lv_goto (tgt := 115) hx hb d_M_leads_227 (by decide) ?_
                          exact ih115 (n115 - 1) _ (by omega) ⟨i + 1, (f / 2 ^ 1), (g / 2 ^ 1), (va), (tl_node (vb) (rw9 i)), lv_sub hl [0, 2, 1, 4, 3, 5, 6, 7] rfl, by omega, by omega, by omega, (Nat.le_trans (tl_div_le _ _) hf), (Nat.le_trans (tl_div_le _ _) hg), (by rw [← hq, show 0 + ol - i = (0 + ol - (i + 1)) + 1 by omega, tl_lead_f h126 hle, tl_lv_f hle])⟩
                        · -- 143 f
                          have hle := tl_left_t (f := f) (Or.inr h143)
                          refine lv_aload_n hx hb d_M_leads_146 rfl (lv_at hl 7 rfl) ?_
                          refine va_get (ci := 2) (v := .ref (bd 8)) (C := R_M) (T := F_M) (N := 18) hx hb hw iw_M hown hE.1 hP 0 rfl rfl 15 (by decide) (hw _ tl_m215) (fun _ h9 => h9) rfl d_M_leads_147 ?_
                          refine lv_iload hx hb d_M_leads_150 (lv_at hl 0 rfl) ?_
                          refine tl_lald (a := i) hx hb hE.1 hP 8 0 rfl rfl (by omega) (by decide) d_M_leads_152 ?_
                          refine lv_lload hx hb d_M_leads_153 (lv_at hl 3 rfl) ?_
                          refine tl_goL (v := (tl_node (rw9 i) (va))) (va_runS (As := [.long (rw9 i), .long (va)]) (rest := []) ⟨hx, hb, hml, hown, hw⟩ (c_M_node l (rw9 i) (va)) (⟨tl_cB hw tl_m256 tl_m3 tl_m254 dd_M_node rfl rfl ⟨Nat.le_of_ble_eq_true rfl, Nat.le_of_ble_eq_true rfl⟩, hw _ tl_m255⟩) (tl_pre0) rfl rfl hl.1 rfl (lv_room (Nat.le_of_ble_eq_true rfl)) d_M_leads_155 ⟨Nat.zero_le _, Nat.zero_le _⟩) ?_
                          refine lv_lstore (lv' := [(9, .long (tl_node (rw9 i) (va))), (13, .int (nI (i))), (7, .int (nI (f))), (8, .int (nI (g))), (11, .long (vb)), (3, .long (x)), (5, .long (y)), (0, .ref (bd 0))]) hx hb d_M_leads_158 hl (by decide) rfl (fun ls hl => ?_)
                          refine lv_aload_n hx hb d_M_leads_160 rfl (lv_at hl 7 rfl) ?_
                          refine va_get (ci := 2) (v := .ref (bd 8)) (C := R_M) (T := F_M) (N := 18) hx hb hw iw_M hown hE.1 hP 0 rfl rfl 15 (by decide) (hw _ tl_m215) (fun _ h9 => h9) rfl d_M_leads_161 ?_
                          refine lv_iload hx hb d_M_leads_164 (lv_at hl 1 rfl) ?_
                          refine tl_lald (a := i) hx hb hE.1 hP 8 0 rfl rfl (by omega) (by decide) d_M_leads_166 ?_
                          refine lv_lload hx hb d_M_leads_167 (lv_at hl 4 rfl) ?_
                          refine tl_goL (v := (tl_node (rw9 i) (vb))) (va_runS (As := [.long (rw9 i), .long (vb)]) (rest := []) ⟨hx, hb, hml, hown, hw⟩ (c_M_node l (rw9 i) (vb)) (⟨tl_cB hw tl_m256 tl_m3 tl_m254 dd_M_node rfl rfl ⟨Nat.le_of_ble_eq_true rfl, Nat.le_of_ble_eq_true rfl⟩, hw _ tl_m255⟩) (tl_pre0) rfl rfl hl.1 rfl (lv_room (Nat.le_of_ble_eq_true rfl)) d_M_leads_169 ⟨Nat.zero_le _, Nat.zero_le _⟩) ?_
                          refine lv_lstore (lv' := [(11, .long (tl_node (rw9 i) (vb))), (9, .long (tl_node (rw9 i) (va))), (13, .int (nI (i))), (7, .int (nI (f))), (8, .int (nI (g))), (3, .long (x)), (5, .long (y)), (0, .ref (bd 0))]) hx hb d_M_leads_172 hl (by decide) rfl (fun ls hl => ?_)
                          refine lv_iload hx hb d_M_leads_174 (lv_at hl 3 rfl) ?_
                          refine tl_goI (v := (nI (tl_tz f))) (va_runS (As := [.int (nI (f))]) (rest := []) ⟨hx, hb, hml, hown, hw⟩ (c_M_halvings l f (by omega)) (⟨tl_cB hw tl_m344 tl_m3 tl_m342 dd_M_halvings rfl rfl ⟨Nat.le_of_ble_eq_true rfl, Nat.le_of_ble_eq_true rfl⟩, hw _ tl_m343⟩) (tl_pre0) rfl rfl hl.1 rfl (lv_room (Nat.le_of_ble_eq_true rfl)) d_M_leads_176 ⟨Nat.zero_le _, Nat.zero_le _⟩) ?_
                          have htz := tl_tz_lt (x := f) (by omega)
                          refine lv_istore (lv' := [(14, .int (nI (tl_tz f))), (11, .long (tl_node (rw9 i) (vb))), (9, .long (tl_node (rw9 i) (va))), (13, .int (nI (i))), (7, .int (nI (f))), (8, .int (nI (g))), (3, .long (x)), (5, .long (y)), (0, .ref (bd 0))]) hx hb d_M_leads_179 hl (by decide) rfl (fun ls hl => ?_)
                          refine lv_iload hx hb d_M_leads_181 (lv_at hl 4 rfl) ?_
                          refine lv_iload hx hb d_M_leads_183 (lv_at hl 0 rfl) ?_
                          refine lv_ishr hx hb d_M_leads_185 ?_
                          refine lv_topi (nm_r (e' := (nI (f / 2 ^ (tl_tz f)))) (tl_shr (by omega) (by omega)) ?_)
                          refine lv_istore (lv' := [(7, .int (nI (f / 2 ^ (tl_tz f)))), (14, .int (nI (tl_tz f))), (11, .long (tl_node (rw9 i) (vb))), (9, .long (tl_node (rw9 i) (va))), (13, .int (nI (i))), (8, .int (nI (g))), (3, .long (x)), (5, .long (y)), (0, .ref (bd 0))]) hx hb d_M_leads_186 hl (by decide) rfl (fun ls hl => ?_)
                          refine lv_iload hx hb d_M_leads_188 (lv_at hl 5 rfl) ?_
                          refine lv_iload hx hb d_M_leads_190 (lv_at hl 1 rfl) ?_
                          refine lv_ishr hx hb d_M_leads_192 ?_
                          refine lv_topi (nm_r (e' := (nI (g / 2 ^ (tl_tz f)))) (tl_shr (by omega) (by omega)) ?_)
                          refine lv_istore (lv' := [(8, .int (nI (g / 2 ^ (tl_tz f)))), (7, .int (nI (f / 2 ^ (tl_tz f)))), (14, .int (nI (tl_tz f))), (11, .long (tl_node (rw9 i) (vb))), (9, .long (tl_node (rw9 i) (va))), (13, .int (nI (i))), (3, .long (x)), (5, .long (y)), (0, .ref (bd 0))]) hx hb d_M_leads_193 hl (by decide) rfl (fun ls hl => ?_)
                          refine lv_goto (tgt := 212) hx hb d_M_leads_195 (by decide) ?_
                          refine lv_iload hx hb d_M_leads_212 (lv_at hl 1 rfl) ?_
                          refine lv_iconst (v := (nI (1))) hx hb d_M_leads_214 (by decide) ?_
                          refine lv_ishr hx hb d_M_leads_215 ?_
                          refine lv_topi (nm_r (e' := (nI ((f / 2 ^ (tl_tz f)) / 2 ^ 1))) (tl_shr (Nat.lt_of_le_of_lt (tl_div_le _ _) (by omega)) (by omega)) ?_)
                          refine lv_istore (lv' := [(7, .int (nI ((f / 2 ^ (tl_tz f)) / 2 ^ 1))), (8, .int (nI (g / 2 ^ (tl_tz f)))), (14, .int (nI (tl_tz f))), (11, .long (tl_node (rw9 i) (vb))), (9, .long (tl_node (rw9 i) (va))), (13, .int (nI (i))), (3, .long (x)), (5, .long (y)), (0, .ref (bd 0))]) hx hb d_M_leads_216 hl (by decide) rfl (fun ls hl => ?_)
                          refine lv_iload hx hb d_M_leads_218 (lv_at hl 1 rfl) ?_
                          refine lv_iconst (v := (nI (1))) hx hb d_M_leads_220 (by decide) ?_
                          refine lv_ishr hx hb d_M_leads_221 ?_
                          refine lv_topi (nm_r (e' := (nI ((g / 2 ^ (tl_tz f)) / 2 ^ 1))) (tl_shr (Nat.lt_of_le_of_lt (tl_div_le _ _) (by omega)) (by omega)) ?_)
                          refine lv_istore (lv' := [(8, .int (nI ((g / 2 ^ (tl_tz f)) / 2 ^ 1))), (7, .int (nI ((f / 2 ^ (tl_tz f)) / 2 ^ 1))), (14, .int (nI (tl_tz f))), (11, .long (tl_node (rw9 i) (vb))), (9, .long (tl_node (rw9 i) (va))), (13, .int (nI (i))), (3, .long (x)), (5, .long (y)), (0, .ref (bd 0))]) hx hb d_M_leads_222 hl (by decide) rfl (fun ls hl => ?_)
                          refine lv_iinc (k := 5) (v := (nI (i + 1))) (lv' := [(13, .int (nI (i + 1))), (8, .int (nI ((g / 2 ^ (tl_tz f)) / 2 ^ 1))), (7, .int (nI ((f / 2 ^ (tl_tz f)) / 2 ^ 1))), (14, .int (nI (tl_tz f))), (11, .long (tl_node (rw9 i) (vb))), (9, .long (tl_node (rw9 i) (va))), (3, .long (x)), (5, .long (y)), (0, .ref (bd 0))]) hx hb d_M_leads_224 hl rfl (by rw [lit1]; exact (nI_succ _).symm) (by decide) rfl (fun ls hl => ?_)
                          refine lv_goto (tgt := 115) hx hb d_M_leads_227 (by decide) ?_
                          exact ih115 (n115 - 1) _ (by omega) ⟨i + 1, ((f / 2 ^ (tl_tz f)) / 2 ^ 1), ((g / 2 ^ (tl_tz f)) / 2 ^ 1), (tl_node (rw9 i) (va)), (tl_node (rw9 i) (vb)), lv_sub hl [0, 2, 1, 5, 4, 6, 7, 8] rfl, by omega, by omega, by omega, (Nat.le_trans (tl_div_le _ _) (Nat.le_trans (tl_div_le _ _) hf)), (Nat.le_trans (tl_div_le _ _) (Nat.le_trans (tl_div_le _ _) hg)), (by rw [← hq, show 0 + ol - i = (0 + ol - (i + 1)) + 1 by omega, tl_lead_t h126 hle, tl_lv_t hle, tl_dd f (tl_tz f), tl_dd g (tl_tz f)])⟩
                    · -- 126 f
                      refine lv_iconst (v := (nI (0))) hx hb d_M_leads_129 (by decide) ?_
                      have hqB : tl_ldA O ol (nI mm) (nI kk) x y = tl_ldB (tl_lead rw9 (0 + ol - 1) 1 ((mm - 1) / 2 ^ tl_tz mm) ((kk - 1) / 2 ^ tl_tz mm) (rw9 0) (rw9 0)) x y := by rw [hspB, if_neg (by omega), ← tl_ldF_of (m := mm) (k := kk) (x := x) (y := y) (by omega) hro]
                      refine lv_topi (nm_r (e' := tl_bi (tl_ldA O ol (nI (mm)) (nI (kk)) x y)) ((tl_bi0 (by rw [hqB, ← hq, show 0 + ol - i = (0 + ol - (i + 1)) + 1 by omega, tl_lead_no h126]; rfl))) ?_)
                      exact W.zret hx hb hr (tl_bi_nar _) (fun t9 ht9 _ => tl_endI hS (show tl_Y D cJ cI cZ bd (E, nf, T, L, sz, rt, dn, wm, cr, Lp, ol, O) _ from ⟨tf, hn, hs, cd, pf, pl, rw9, (0 + ol), wh, th, hI0, hP⟩) ht9) hS.2.2 d_M_leads_130
                · -- 78 f
                  refine lv_iload hx hb d_M_leads_81 (lv_at hl 0 rfl) ?_
                  refine lv_iconst (v := (nI (1))) hx hb d_M_leads_83 (by decide) ?_
                  refine lv_ishr hx hb d_M_leads_84 ?_
                  refine lv_topi (nm_r (e' := (nI ((mm - 1) / 2 ^ (j + 1)))) ((tl_shr (Nat.lt_of_le_of_lt (tl_div_le _ _) (by omega)) (by omega)).trans (congrArg nI (tl_dd _ _).symm)) ?_)
                  refine lv_istore (lv' := [(7, .int (nI ((mm - 1) / 2 ^ (j + 1)))), (8, .int (nI ((kk - 1) / 2 ^ j))), (3, .long (x)), (5, .long (y)), (0, .ref (bd 0))]) hx hb d_M_leads_85 hl (by decide) rfl (fun ls hl => ?_)
                  refine lv_iload hx hb d_M_leads_87 (lv_at hl 1 rfl) ?_
                  refine lv_iconst (v := (nI (1))) hx hb d_M_leads_89 (by decide) ?_
                  refine lv_ishr hx hb d_M_leads_90 ?_
                  refine lv_topi (nm_r (e' := (nI ((kk - 1) / 2 ^ (j + 1)))) ((tl_shr (Nat.lt_of_le_of_lt (tl_div_le _ _) (by omega)) (by omega)).trans (congrArg nI (tl_dd _ _).symm)) ?_)
                  refine lv_istore (lv' := [(8, .int (nI ((kk - 1) / 2 ^ (j + 1)))), (7, .int (nI ((mm - 1) / 2 ^ (j + 1)))), (3, .long (x)), (5, .long (y)), (0, .ref (bd 0))]) hx hb d_M_leads_91 hl (by decide) rfl (fun ls hl => ?_)
                  refine lv_goto (tgt := 73) hx hb d_M_leads_93 (by decide) ?_
                  have hj30 := tl_j30 (by omega) (by omega) (tl_zs hz9 (tl_odd (by omega) hz9 h78))
                  exact ih73 (n73 - 1) _ (by omega) ⟨j + 1, lv_sub hl [1, 0, 2, 3, 4] rfl, by omega, by omega, tl_zs hz9 (tl_odd (by omega) hz9 h78)⟩
              · -- 58 f
                refine lv_iconst (v := (nI (0))) hx hb d_M_leads_61 (by decide) ?_
                refine lv_topi (nm_r (e' := tl_bi (tl_ldA O ol (nI (mm)) (nI (kk)) x y)) ((tl_bi0 (by rw [hspB, if_pos (by omega)]))) ?_)
                exact W.zret hx hb hr (tl_bi_nar _) (fun t9 ht9 _ => tl_endI hS (show tl_Y D cJ cI cZ bd (E, nf, T, L, sz, rt, dn, wm, cr, Lp, ol, O) _ from ⟨tf, hn, hs, cd, pf, pl, rw9, (0 + ol), wh, th, hI0, hP⟩) ht9) hS.2.2 d_M_leads_62
          · -- 25 f
            refine lv_aload_n hx hb d_M_leads_28 rfl (lv_at hl 0 rfl) ?_
            refine va_get (ci := 2) (v := .int (nI (ol))) (C := R_M) (T := F_M) (N := 18) hx hb hw iw_M hown hE.1 hP 0 rfl rfl 12 (by decide) (hw _ tl_m212) (fun _ h9 => h9) rfl d_M_leads_29 ?_
            refine tl_zne (tgt := 46) (by omega) hx hb d_M_leads_32 (by decide) (fun h32 => ?_) (fun h32 => ?_)
            · -- 32 t
              refine lv_iconst (v := (nI (0))) hx hb d_M_leads_46 (by decide) ?_
              refine lv_topi (nm_r (e' := tl_bi (tl_ldA O ol (nI (mm)) (nI (kk)) x y)) ((by first | exact tl_bi1 (by rw [hsp, if_pos (by rw [h25]), h32, h39]; simp) | exact tl_bi0 (by rw [hsp, if_pos (by rw [h25]), h32]; simp [h39]) | exact tl_bi0 (by rw [hsp, if_pos (by rw [h25])]; simp [h32]))) ?_)
              exact W.zret hx hb hr (tl_bi_nar _) (fun t9 ht9 _ => tl_endI hS (show tl_Y D cJ cI cZ bd (E, nf, T, L, sz, rt, dn, wm, cr, Lp, ol, O) _ from ⟨tf, hn, hs, cd, pf, pl, rw, rl, wh, th, hI0, hP⟩) ht9) hS.2.2 d_M_leads_47
            · -- 32 f
              refine lv_lload_n hx hb d_M_leads_35 rfl (lv_at hl 3 rfl) ?_
              refine lv_lload hx hb d_M_leads_36 (lv_at hl 4 rfl) ?_
              refine tl_lne (tgt := 46) hx hb d_M_leads_38 d_M_leads_39 (by decide) (fun h39 => ?_) (fun h39 => ?_)
              · -- 39 t
                refine lv_iconst (v := (nI (0))) hx hb d_M_leads_46 (by decide) ?_
                refine lv_topi (nm_r (e' := tl_bi (tl_ldA O ol (nI (mm)) (nI (kk)) x y)) ((by first | exact tl_bi1 (by rw [hsp, if_pos (by rw [h25]), h32, h39]; simp) | exact tl_bi0 (by rw [hsp, if_pos (by rw [h25]), h32]; simp [h39]) | exact tl_bi0 (by rw [hsp, if_pos (by rw [h25])]; simp [h32]))) ?_)
                exact W.zret hx hb hr (tl_bi_nar _) (fun t9 ht9 _ => tl_endI hS (show tl_Y D cJ cI cZ bd (E, nf, T, L, sz, rt, dn, wm, cr, Lp, ol, O) _ from ⟨tf, hn, hs, cd, pf, pl, rw, rl, wh, th, hI0, hP⟩) ht9) hS.2.2 d_M_leads_47
              · -- 39 f
                refine lv_iconst (v := (nI (1))) hx hb d_M_leads_42 (by decide) ?_
                refine lv_goto (tgt := 47) hx hb d_M_leads_43 (by decide) ?_
                refine lv_topi (nm_r (e' := tl_bi (tl_ldA O ol (nI (mm)) (nI (kk)) x y)) ((by first | exact tl_bi1 (by rw [hsp, if_pos (by rw [h25]), h32, h39]; simp) | exact tl_bi0 (by rw [hsp, if_pos (by rw [h25]), h32]; simp [h39]) | exact tl_bi0 (by rw [hsp, if_pos (by rw [h25])]; simp [h32]))) ?_)
                exact W.zret hx hb hr (tl_bi_nar _) (fun t9 ht9 _ => tl_endI hS (show tl_Y D cJ cI cZ bd (E, nf, T, L, sz, rt, dn, wm, cr, Lp, ol, O) _ from ⟨tf, hn, hs, cd, pf, pl, rw, rl, wh, th, hI0, hP⟩) ht9) hS.2.2 d_M_leads_47
        · -- 18 f
          refine lv_iconst (v := (nI (0))) hx hb d_M_leads_21 (by decide) ?_
          refine lv_topi (nm_r (e' := tl_bi (tl_ldA O ol mI kI x y)) ((tl_bi0 (by unfold tl_ldA; first | (rw [if_pos h2]; done) | (rw [if_neg h2, if_pos h8]; done) | (rw [if_neg h2, if_neg h8, if_pos h13]; done) | rw [if_neg h2, if_neg h8, if_neg h13, if_neg h18]))) ?_)
          exact W.zret hx hb hr (tl_bi_nar _) (fun t9 ht9 _ => tl_endI hS (show tl_Y D cJ cI cZ bd (E, nf, T, L, sz, rt, dn, wm, cr, Lp, ol, O) _ from ⟨tf, hn, hs, cd, pf, pl, rw, rl, wh, th, hI0, hP⟩) ht9) hS.2.2 d_M_leads_22
