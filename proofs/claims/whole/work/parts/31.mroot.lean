set_option maxHeartbeats 4000000 in
set_option maxRecDepth 100000 in
theorem c_M_rootAt (l : Launch) (D : va_G) (cJ cI cG cZ : ClassId) (bd : Nat → Nat) (E : Nat → Int64) (nf : Nat) (tf : Nat → Int64) (hn hs : Nat → Int32) (rt : Nat → Int64) (dn : Bool) (wm cr : Int32) (cd : Bool) (pf : Nat → Int64) (pl : Nat) (O : Nat → Int64) (ol : Nat) (rw : Nat → Int64) (rl : Nat) (wh : Nat → Int64) (th : Nat → Int32) (a n : Nat) (hap : tl_ap bd 11) (han : a + n ≤ 64) : Met l y_M_rootAt (k_M_rootAt :: tl_ws) { frames := 2, cells := 0, slots := 0, locals := 50 } (tl_Pc D cJ cI cG cZ [.ref (bd 0), .int (nI (a)), .int (nI (n))] (fun H => va_P D tl_cl (tl_V cJ cI cZ bd E nf tf hn hs rt dn wm cr cd pf pl O ol rw rl wh th) H)) (tl_Ql (tl_root E a n) (fun H => ∃ (wh9 : Nat → Int64) (th9 : Nat → Int32), va_P D tl_cl (tl_V cJ cI cZ bd E nf tf hn hs rt dn wm cr cd pf pl O ol rw rl wh9 th9) H) (tl_in bd 11)) 0 0 (tl_in bd 11) := by
  refine Met.ofW (cc := b_M_rootAt) (maxL := 7) (ret := (some .long)) (by decide) rfl ?_
  intro p e s m args below meth c s₁ B hml hv
  obtain ⟨rfl, hE, hP⟩ := hv
  have hx := B.exec
  have hb := B.bytes
  have hr := B.returns
  have hw : ∀ w ∈ tl_ws, w.before ([.ref (bd 0), .int (nI (a)), .int (nI (n))] : List Value).toArray s = true := fun w h => atoms_spec (ws := k_M_rootAt :: tl_ws) B.pre w (List.mem_cons_of_mem _ h)
  have hown : s.vm.findClass R_M = some m.cls := findClass_of_methodNamed B.named
  have hlocks := B.notSynchronized
  have hl := lv_entry ([.ref (bd 0), .int (nI (a)), .int (nI (n))]) (n := 7) (Nat.le_of_ble_eq_true rfl)
  rw [lg_entry_eq]
  generalize (lg_sl ([.ref (bd 0), .int (nI (a)), .int (nI (n))]) ++ List.replicate (7 - (lg_sl ([.ref (bd 0), .int (nI (a)), .int (nI (n))])).length) Slot.unset).toArray = ls at hl ⊢
  have hl : lv_has ls 7 [(0, .ref (bd 0)), (1, .int (nI (a))), (2, .int (nI (n)))] := hl
  have hP : va_P D tl_cl (tl_V cJ cI cZ bd E nf tf hn hs rt dn wm cr cd pf pl O ol rw rl wh th) s.heap := hP
  have hS : va_S (tl_in bd 11) s.heap s.heap [] := va_S.rf
  refine lv_iconst (v := (nI (0))) hx hb d_M_rootAt_0 (by decide) ?_
  refine lv_istore_n (lv' := [(3, .int (nI (0))), (0, .ref (bd 0)), (1, .int (nI (a))), (2, .int (nI (n)))]) hx hb d_M_rootAt_1 rfl hl (by decide) rfl (fun ls hl => ?_)
  refine tl_loopW (fun n2 ls H locs => ∃ (i : Nat) (th1 : Nat → Int32), lv_has ls 7 [(3, .int (nI (i))), (0, .ref (bd 0)), (1, .int (nI (a))), (2, .int (nI (n)))] ∧ va_P D tl_cl (tl_V cJ cI cZ bd E nf tf hn hs rt dn wm cr cd pf pl O ol rw rl wh th1) H ∧ va_S (tl_in bd 11) s.heap H locs ∧ (i ≤ 8) ∧ (n2 = 8 - i) ∧ (∀ k, k < i → th1 k = 0)) (fun n2 ls H locs hI ih2 => ?_) 8 _ _ _ ⟨0, th, lv_sub hl [0, 1, 2, 3] rfl, hP, hS, by omega, by omega, fun k hk => absurd hk (Nat.not_lt_zero _)⟩
  obtain ⟨i, th1, hl, hP, hS, hi, hm, ht0⟩ := hI
  refine lv_iload_n hx hb d_M_rootAt_2 rfl (lv_at hl 0 rfl) ?_
  refine lv_bipush (v := (nI (8))) hx hb d_M_rootAt_3 (by decide) ?_
  refine tl_cge (tgt := 21) (by omega) (by omega) hx hb d_M_rootAt_5 (by decide) (fun h5 => ?_) (fun h5 => ?_)
  · -- 5 t
    refine lv_iload_n hx hb d_M_rootAt_21 rfl (lv_at hl 2 rfl) ?_
    refine lv_istore_n (lv' := [(3, .int (nI (a))), (0, .ref (bd 0)), (1, .int (nI (a))), (2, .int (nI (n)))]) hx hb d_M_rootAt_22 rfl hl (by decide) rfl (fun ls hl => ?_)
    refine tl_loopW (fun n23 ls H locs => ∃ (c9 : Nat) (wh1 : Nat → Int64) (th2 : Nat → Int32), lv_has ls 7 [(3, .int (nI (a + c9))), (0, .ref (bd 0)), (1, .int (nI (a))), (2, .int (nI (n)))] ∧ va_P D tl_cl (tl_V cJ cI cZ bd E nf tf hn hs rt dn wm cr cd pf pl O ol rw rl wh1 th2) H ∧ va_S (tl_in bd 11) s.heap H locs ∧ (c9 ≤ n) ∧ (n23 = n - c9) ∧ (tl_ctr E a c9 0 th2 wh1)) (fun n23 ls H locs hI ih23 => ?_) n _ _ _ ⟨0, wh, th1, lv_sub hl [0, 1, 2, 3] rfl, hP, hS, by omega, by omega, tl_ctr_0 E a wh (fun k hk => ht0 k (by omega))⟩
    obtain ⟨c9, wh1, th2, hl, hP, hS, hc, hm2, hct⟩ := hI
    refine lv_iload_n hx hb d_M_rootAt_23 rfl (lv_at hl 0 rfl) ?_
    refine lv_iload_n hx hb d_M_rootAt_24 rfl (lv_at hl 2 rfl) ?_
    refine lv_iload_n hx hb d_M_rootAt_25 rfl (lv_at hl 3 rfl) ?_
    refine lv_iadd hx hb d_M_rootAt_26 ?_
    refine lv_topi (nm_r (e' := (nI (a + n))) (nI_add _ _) ?_)
    refine tl_cge (tgt := 108) (by omega) (by omega) hx hb d_M_rootAt_27 (by decide) (fun h27 => ?_) (fun h27 => ?_)
    · -- 27 t
      have hcn : c9 = n := by omega
      rw [hcn] at hct
      refine lv_lconst (v := 0) hx hb d_M_rootAt_108 (by decide) ?_
      refine lv_lstore_n (lv' := [(3, .long (0)), (0, .ref (bd 0)), (1, .int (nI (a))), (2, .int (nI (n)))]) hx hb d_M_rootAt_109 rfl hl (by decide) rfl (fun ls hl => ?_)
      refine lv_iconst (v := (nI (0))) hx hb d_M_rootAt_110 (by decide) ?_
      refine lv_istore (lv' := [(5, .int (nI (0))), (3, .long (0)), (0, .ref (bd 0)), (1, .int (nI (a))), (2, .int (nI (n)))]) hx hb d_M_rootAt_111 hl (by decide) rfl (fun ls hl => ?_)
      refine lv_iconst (v := (nI (0))) hx hb d_M_rootAt_113 (by decide) ?_
      refine lv_istore (lv' := [(6, .int (nI (0))), (5, .int (nI (0))), (3, .long (0)), (0, .ref (bd 0)), (1, .int (nI (a))), (2, .int (nI (n)))]) hx hb d_M_rootAt_114 hl (by decide) rfl (fun ls hl => ?_)
      refine tl_loopR (fun n116 ls => ∃ (k9 : Nat) (r9 : Int64) (sm : Bool), lv_has ls 7 [(6, .int (nI (k9))), (5, .int (tl_bi (sm))), (3, .long (r9)), (0, .ref (bd 0))] ∧ (k9 ≤ 8) ∧ (n116 = 8 - k9) ∧ (r9 = tl_root E (a + 2 ^ k9 * (n / 2 ^ k9)) (n % 2 ^ k9)) ∧ (sm = (n % 2 ^ k9 != 0))) (fun n116 ls hI ih116 => ?_) 8 _ ⟨0, 0, false, lv_sub hl [0, 1, 2, 3] rfl, by omega, by omega, (by rw [Nat.pow_zero, Nat.mod_one, tl_root_0]), (by rw [Nat.pow_zero, Nat.mod_one]; rfl)⟩
      obtain ⟨k9, r9, sm, hl, hk, hm6, hr9, hsm⟩ := hI
      refine lv_iload hx hb d_M_rootAt_116 (lv_at hl 0 rfl) ?_
      refine lv_bipush (v := (nI (8))) hx hb d_M_rootAt_118 (by decide) ?_
      refine tl_cge (tgt := 169) (by omega) (by omega) hx hb d_M_rootAt_120 (by decide) (fun h120 => ?_) (fun h120 => ?_)
      · -- 120 t
        refine lv_lload_n hx hb d_M_rootAt_169 rfl (lv_at hl 2 rfl) ?_
        refine lv_topl (nm_r (e' := tl_root E a n) ((by rw [hr9, show k9 = 8 by omega]; exact tl_root_cg (by simp only [Nat.reducePow]; omega) (by simp only [Nat.reducePow]; omega))) ?_)
        exact W.lret hx hb hr (fun t9 ht9 _ => tl_endL hS (⟨wh1, th2, hP⟩) ht9) hS.2.2 d_M_rootAt_170
      · -- 120 f
        refine lv_aload_n hx hb d_M_rootAt_123 rfl (lv_at hl 3 rfl) ?_
        refine va_get (ci := 2) (v := .ref (bd 10)) (C := R_M) (T := F_M) (N := 18) hx hb hw iw_M hown hE.1 hP 0 rfl rfl 17 (by decide) (hw _ tl_m217) (fun _ h9 => h9) rfl d_M_rootAt_124 ?_
        refine lv_iload hx hb d_M_rootAt_127 (lv_at hl 0 rfl) ?_
        refine tl_zald (a := k9) hx hb hE.1 hP 10 3 rfl rfl (by omega) (by decide) d_M_rootAt_129 ?_
        refine lv_if_eq (tgt := 163) hx hb d_M_rootAt_130 (by decide) (fun h130 => ?_) (fun h130 => ?_)
        · -- 130 t
          refine lv_iinc (k := 0) (v := (nI (k9 + 1))) (lv' := [(6, .int (nI (k9 + 1))), (5, .int (tl_bi (sm))), (3, .long (r9)), (0, .ref (bd 0))]) hx hb d_M_rootAt_163 hl rfl (by rw [lit1]; exact (nI_succ _).symm) (by decide) rfl (fun ls hl => ?_)
          refine lv_goto (tgt := 116) hx hb d_M_rootAt_166 (by decide) ?_
          exact ih116 (n116 - 1) _ (by omega) ⟨k9 + 1, r9, sm, lv_sub hl [0, 1, 2, 3] rfl, by omega, by omega, tl_fin_0 (by omega) (tl_ctr_n0 hct (by omega) h130) hr9, (by rw [tl_sm0 (tl_ctr_n0 hct (by omega) h130)]; exact hsm)⟩
        · -- 130 f
          have hw9 := tl_ctr_w0 hct (by omega) h130
          refine lv_iload hx hb d_M_rootAt_133 (lv_at hl 1 rfl) ?_
          refine tl_beq (tgt := 152) hx hb d_M_rootAt_135 (by decide) (fun h135 => ?_) (fun h135 => ?_)
          · -- 135 t
            refine lv_aload_n hx hb d_M_rootAt_152 rfl (lv_at hl 3 rfl) ?_
            refine va_get (ci := 2) (v := .ref (bd 9)) (C := R_M) (T := F_M) (N := 18) hx hb hw iw_M hown hE.1 hP 0 rfl rfl 16 (by decide) (hw _ tl_m216) (fun _ h9 => h9) rfl d_M_rootAt_153 ?_
            refine lv_iload hx hb d_M_rootAt_156 (lv_at hl 0 rfl) ?_
            refine tl_lald (a := k9) hx hb hE.1 hP 9 0 rfl rfl (by omega) (by decide) d_M_rootAt_158 ?_
            refine lv_lstore_n (lv' := [(3, .long (wh1 k9)), (6, .int (nI (k9))), (5, .int (tl_bi (sm))), (0, .ref (bd 0))]) hx hb d_M_rootAt_159 rfl hl (by decide) rfl (fun ls hl => ?_)
            refine lv_iconst (v := (nI (1))) hx hb d_M_rootAt_160 (by decide) ?_
            refine lv_istore (lv' := [(5, .int (nI (1))), (3, .long (wh1 k9)), (6, .int (nI (k9))), (0, .ref (bd 0))]) hx hb d_M_rootAt_161 hl (by decide) rfl (fun ls hl => ?_)
            refine lv_iinc (k := 2) (v := (nI (k9 + 1))) (lv' := [(6, .int (nI (k9 + 1))), (5, .int (nI (1))), (3, .long (wh1 k9)), (0, .ref (bd 0))]) hx hb d_M_rootAt_163 hl rfl (by rw [lit1]; exact (nI_succ _).symm) (by decide) rfl (fun ls hl => ?_)
            refine lv_goto (tgt := 116) hx hb d_M_rootAt_166 (by decide) ?_
            exact ih116 (n116 - 1) _ (by omega) ⟨k9 + 1, (wh1 k9), true, lv_sub hl [0, 1, 2, 3] rfl, by omega, by omega, (by first | exact tl_fin_1 (by omega) hw9.1 (tl_smf hsm h135) hw9.2 | exact tl_fin_2 (by omega) (by omega) hw9.1 (tl_smt hsm h135) hw9.2 hr9), (tl_sm1 hw9.1).symm⟩
          · -- 135 f
            refine lv_aload_n hx hb d_M_rootAt_138 rfl (lv_at hl 3 rfl) ?_
            refine va_get (ci := 2) (v := .ref (bd 9)) (C := R_M) (T := F_M) (N := 18) hx hb hw iw_M hown hE.1 hP 0 rfl rfl 16 (by decide) (hw _ tl_m216) (fun _ h9 => h9) rfl d_M_rootAt_139 ?_
            refine lv_iload hx hb d_M_rootAt_142 (lv_at hl 0 rfl) ?_
            refine tl_lald (a := k9) hx hb hE.1 hP 9 0 rfl rfl (by omega) (by decide) d_M_rootAt_144 ?_
            refine lv_lload_n hx hb d_M_rootAt_145 rfl (lv_at hl 2 rfl) ?_
            refine tl_goL (v := (tl_node (wh1 k9) (r9))) (va_runS (As := [.long (wh1 k9), .long (r9)]) (rest := []) ⟨hx, hb, hml, hown, hw⟩ (c_M_node l (wh1 k9) (r9)) (⟨tl_cB hw tl_m256 tl_m3 tl_m254 dd_M_node rfl rfl ⟨Nat.le_of_ble_eq_true rfl, Nat.le_of_ble_eq_true rfl⟩, hw _ tl_m255⟩) (tl_pre0) rfl rfl hl.1 rfl (lv_room (Nat.le_of_ble_eq_true rfl)) d_M_rootAt_146 ⟨Nat.zero_le _, Nat.zero_le _⟩) ?_
            refine lv_goto (tgt := 159) hx hb d_M_rootAt_149 (by decide) ?_
            refine lv_lstore_n (lv' := [(3, .long (tl_node (wh1 k9) (r9))), (6, .int (nI (k9))), (5, .int (tl_bi (sm))), (0, .ref (bd 0))]) hx hb d_M_rootAt_159 rfl hl (by decide) rfl (fun ls hl => ?_)
            refine lv_iconst (v := (nI (1))) hx hb d_M_rootAt_160 (by decide) ?_
            refine lv_istore (lv' := [(5, .int (nI (1))), (3, .long (tl_node (wh1 k9) (r9))), (6, .int (nI (k9))), (0, .ref (bd 0))]) hx hb d_M_rootAt_161 hl (by decide) rfl (fun ls hl => ?_)
            refine lv_iinc (k := 2) (v := (nI (k9 + 1))) (lv' := [(6, .int (nI (k9 + 1))), (5, .int (nI (1))), (3, .long (tl_node (wh1 k9) (r9))), (0, .ref (bd 0))]) hx hb d_M_rootAt_163 hl rfl (by rw [lit1]; exact (nI_succ _).symm) (by decide) rfl (fun ls hl => ?_)
            refine lv_goto (tgt := 116) hx hb d_M_rootAt_166 (by decide) ?_
            exact ih116 (n116 - 1) _ (by omega) ⟨k9 + 1, (tl_node (wh1 k9) (r9)), true, lv_sub hl [0, 1, 2, 3] rfl, by omega, by omega, (by first | exact tl_fin_1 (by omega) hw9.1 (tl_smf hsm h135) hw9.2 | exact tl_fin_2 (by omega) (by omega) hw9.1 (tl_smt hsm h135) hw9.2 hr9), (tl_sm1 hw9.1).symm⟩
    · -- 27 f
      refine lv_aload_n hx hb d_M_rootAt_30 rfl (lv_at hl 1 rfl) ?_
      refine va_get (ci := 2) (v := .ref (bd 1)) (C := R_M) (T := F_M) (N := 18) hx hb hw iw_M hown hE.1 hP 0 rfl rfl 1 (by decide) (hw _ tl_m201) (fun _ h9 => h9) rfl d_M_rootAt_31 ?_
      refine lv_iload_n hx hb d_M_rootAt_34 rfl (lv_at hl 0 rfl) ?_
      refine tl_lald (a := (a + c9)) hx hb hE.1 hP 1 0 rfl rfl (by omega) (by decide) d_M_rootAt_35 ?_
      refine tl_goL (v := (tl_leaf (E (a + c9)))) (va_runS (As := [.long (E (a + c9))]) (rest := []) ⟨hx, hb, hml, hown, hw⟩ (c_M_leaf l (E (a + c9))) (⟨tl_cB hw tl_m244 tl_m3 tl_m242 dd_M_leaf rfl rfl ⟨Nat.le_of_ble_eq_true rfl, Nat.le_of_ble_eq_true rfl⟩, hw _ tl_m243⟩) (tl_pre0) rfl rfl hl.1 rfl (lv_room (Nat.le_of_ble_eq_true rfl)) d_M_rootAt_36 ⟨Nat.zero_le _, Nat.zero_le _⟩) ?_
      refine lv_lstore (lv' := [(4, .long (tl_leaf (E (a + c9)))), (3, .int (nI (a + c9))), (0, .ref (bd 0)), (1, .int (nI (a))), (2, .int (nI (n)))]) hx hb d_M_rootAt_39 hl (by decide) rfl (fun ls hl => ?_)
      refine lv_iconst (v := (nI (0))) hx hb d_M_rootAt_41 (by decide) ?_
      refine lv_istore (lv' := [(6, .int (nI (0))), (4, .long (tl_leaf (E (a + c9)))), (3, .int (nI (a + c9))), (0, .ref (bd 0)), (1, .int (nI (a))), (2, .int (nI (n)))]) hx hb d_M_rootAt_42 hl (by decide) rfl (fun ls hl => ?_)
      refine tl_loopW (fun n44 ls H locs => ∃ (j : Nat) (h9 : Int64) (th3 : Nat → Int32), lv_has ls 7 [(6, .int (nI (j))), (4, .long (h9)), (3, .int (nI (a + c9))), (0, .ref (bd 0)), (1, .int (nI (a))), (2, .int (nI (n)))] ∧ va_P D tl_cl (tl_V cJ cI cZ bd E nf tf hn hs rt dn wm cr cd pf pl O ol rw rl wh1 th3) H ∧ va_S (tl_in bd 11) s.heap H locs ∧ (j ≤ 6) ∧ (n44 = 7 - j) ∧ (tl_ctr E a c9 j th3 wh1) ∧ (c9 % 2 ^ j = 2 ^ j - 1) ∧ (h9 = tl_root E (a + (c9 + 1 - 2 ^ j)) (2 ^ j))) (fun n44 ls H locs hI ih44 => ?_) 7 _ _ _ ⟨0, tl_leaf (E (a + c9)), th2, lv_sub hl [0, 1, 2, 3, 4, 5] rfl, hP, hS, by omega, by omega, hct, (by rw [Nat.pow_zero, Nat.mod_one]), (by rw [Nat.pow_zero, Nat.add_sub_cancel, tl_root_1])⟩
      obtain ⟨j, h9, th3, hl, hP, hS, hj, hm4, hcj, hlo, hh9⟩ := hI
      refine lv_aload_n hx hb d_M_rootAt_44 rfl (lv_at hl 3 rfl) ?_
      refine va_get (ci := 2) (v := .ref (bd 10)) (C := R_M) (T := F_M) (N := 18) hx hb hw iw_M hown hE.1 hP 0 rfl rfl 17 (by decide) (hw _ tl_m217) (fun _ h9 => h9) rfl d_M_rootAt_45 ?_
      refine lv_iload hx hb d_M_rootAt_48 (lv_at hl 0 rfl) ?_
      refine tl_zald (a := j) hx hb hE.1 hP 10 3 rfl rfl (by omega) (by decide) d_M_rootAt_50 ?_
      refine lv_if_eq (tgt := 85) hx hb d_M_rootAt_51 (by decide) (fun h51 => ?_) (fun h51 => ?_)
      · -- 51 t
        refine lv_aload_n hx hb d_M_rootAt_85 rfl (lv_at hl 3 rfl) ?_
        refine va_get (ci := 2) (v := .ref (bd 9)) (C := R_M) (T := F_M) (N := 18) hx hb hw iw_M hown hE.1 hP 0 rfl rfl 16 (by decide) (hw _ tl_m216) (fun _ h9 => h9) rfl d_M_rootAt_86 ?_
        refine lv_iload hx hb d_M_rootAt_89 (lv_at hl 0 rfl) ?_
        refine lv_lload hx hb d_M_rootAt_91 (lv_at hl 1 rfl) ?_
        refine tl_last (a := j) hx hb hE.1 hP (tl_DV hap) hS 9 0 rfl rfl (by omega) (by decide) d_M_rootAt_93 (fun H locs hP hS => ?_)
        have hP : va_P D tl_cl (tl_V cJ cI cZ bd E nf tf hn hs rt dn wm cr cd pf pl O ol rw rl (vp_updL wh1 j (h9)) th3) H := hP
        refine lv_aload_n hx hb d_M_rootAt_94 rfl (lv_at hl 3 rfl) ?_
        refine va_get (ci := 2) (v := .ref (bd 10)) (C := R_M) (T := F_M) (N := 18) hx hb hw iw_M hown hE.1 hP 0 rfl rfl 17 (by decide) (hw _ tl_m217) (fun _ h9 => h9) rfl d_M_rootAt_95 ?_
        refine lv_iload hx hb d_M_rootAt_98 (lv_at hl 0 rfl) ?_
        refine lv_iconst (v := (nI (1))) hx hb d_M_rootAt_100 (by decide) ?_
        refine tl_zast (a := j) hx hb hE.1 hP (tl_DV hap) hS 10 3 rfl rfl true rfl (by omega) (by decide) d_M_rootAt_101 (fun H locs hP hS => ?_)
        have hP : va_P D tl_cl (tl_V cJ cI cZ bd E nf tf hn hs rt dn wm cr cd pf pl O ol rw rl (vp_updL wh1 j (h9)) (upd th3 j (tl_bi true))) H := hP
        refine lv_iinc (k := 2) (v := (nI (a + c9 + 1))) (lv' := [(3, .int (nI (a + c9 + 1))), (6, .int (nI (j))), (4, .long (h9)), (0, .ref (bd 0)), (1, .int (nI (a))), (2, .int (nI (n)))]) hx hb d_M_rootAt_102 hl rfl (by rw [lit1]; exact (nI_succ _).symm) (by decide) rfl (fun ls hl => ?_)
        refine lv_goto (tgt := 23) hx hb d_M_rootAt_105 (by decide) ?_
        exact ih23 (n23 - 1) _ _ _ (by omega) ⟨c9 + 1, (vp_updL wh1 j (h9)), (upd th3 j (tl_bi true)), lv_sub hl [0, 3, 4, 5] rfl, hP, hS, by omega, by omega, tl_ctr_end hcj (by omega) hlo (tl_ctr_nbit hcj (by omega) h51) hh9 (fun k => rfl) (fun k => rfl)⟩
      · -- 51 f
        have hbit := tl_ctr_bit hcj (by omega) h51
        have hj6 := tl_bit_lt (by omega) (by omega) hbit
        refine lv_aload_n hx hb d_M_rootAt_54 rfl (lv_at hl 3 rfl) ?_
        refine va_get (ci := 2) (v := .ref (bd 9)) (C := R_M) (T := F_M) (N := 18) hx hb hw iw_M hown hE.1 hP 0 rfl rfl 16 (by decide) (hw _ tl_m216) (fun _ h9 => h9) rfl d_M_rootAt_55 ?_
        refine lv_iload hx hb d_M_rootAt_58 (lv_at hl 0 rfl) ?_
        refine tl_lald (a := j) hx hb hE.1 hP 9 0 rfl rfl (by omega) (by decide) d_M_rootAt_60 ?_
        refine lv_lload hx hb d_M_rootAt_61 (lv_at hl 1 rfl) ?_
        refine tl_goL (v := (tl_node (wh1 j) (h9))) (va_runS (As := [.long (wh1 j), .long (h9)]) (rest := []) ⟨hx, hb, hml, hown, hw⟩ (c_M_node l (wh1 j) (h9)) (⟨tl_cB hw tl_m256 tl_m3 tl_m254 dd_M_node rfl rfl ⟨Nat.le_of_ble_eq_true rfl, Nat.le_of_ble_eq_true rfl⟩, hw _ tl_m255⟩) (tl_pre0) rfl rfl hl.1 rfl (lv_room (Nat.le_of_ble_eq_true rfl)) d_M_rootAt_63 ⟨Nat.zero_le _, Nat.zero_le _⟩) ?_
        refine lv_lstore (lv' := [(4, .long (tl_node (wh1 j) (h9))), (6, .int (nI (j))), (3, .int (nI (a + c9))), (0, .ref (bd 0)), (1, .int (nI (a))), (2, .int (nI (n)))]) hx hb d_M_rootAt_66 hl (by decide) rfl (fun ls hl => ?_)
        refine lv_aload_n hx hb d_M_rootAt_68 rfl (lv_at hl 3 rfl) ?_
        refine va_get (ci := 2) (v := .ref (bd 10)) (C := R_M) (T := F_M) (N := 18) hx hb hw iw_M hown hE.1 hP 0 rfl rfl 17 (by decide) (hw _ tl_m217) (fun _ h9 => h9) rfl d_M_rootAt_69 ?_
        refine lv_iload hx hb d_M_rootAt_72 (lv_at hl 1 rfl) ?_
        refine lv_iconst (v := (nI (0))) hx hb d_M_rootAt_74 (by decide) ?_
        refine tl_zast (a := j) hx hb hE.1 hP (tl_DV hap) hS 10 3 rfl rfl false rfl (by omega) (by decide) d_M_rootAt_75 (fun H locs hP hS => ?_)
        have hP : va_P D tl_cl (tl_V cJ cI cZ bd E nf tf hn hs rt dn wm cr cd pf pl O ol rw rl wh1 (upd th3 j (tl_bi false))) H := hP
        refine lv_iload hx hb d_M_rootAt_76 (lv_at hl 1 rfl) ?_
        refine lv_iconst (v := (nI (1))) hx hb d_M_rootAt_78 (by decide) ?_
        refine lv_iadd hx hb d_M_rootAt_79 ?_
        refine lv_topi (nm_r (e' := (nI (j + 1))) (nI_add _ _) ?_)
        refine lv_istore (lv' := [(6, .int (nI (j + 1))), (4, .long (tl_node (wh1 j) (h9))), (3, .int (nI (a + c9))), (0, .ref (bd 0)), (1, .int (nI (a))), (2, .int (nI (n)))]) hx hb d_M_rootAt_80 hl (by decide) rfl (fun ls hl => ?_)
        refine lv_goto (tgt := 44) hx hb d_M_rootAt_82 (by decide) ?_
        exact ih44 (n44 - 1) _ _ _ (by omega) ⟨j + 1, (tl_node (wh1 j) (h9)), (upd th3 j (tl_bi false)), lv_sub hl [0, 1, 2, 3, 4, 5] rfl, hP, hS, by omega, by omega, tl_ctr_step hcj (by omega) (fun k => rfl), tl_ctr_low hj6 hlo hbit, tl_ctr_node hj6 hlo hbit (tl_ctr_w hcj (by omega) hbit) hh9⟩
  · -- 5 f
    refine lv_aload_n hx hb d_M_rootAt_8 rfl (lv_at hl 1 rfl) ?_
    refine va_get (ci := 2) (v := .ref (bd 10)) (C := R_M) (T := F_M) (N := 18) hx hb hw iw_M hown hE.1 hP 0 rfl rfl 17 (by decide) (hw _ tl_m217) (fun _ h9 => h9) rfl d_M_rootAt_9 ?_
    refine lv_iload_n hx hb d_M_rootAt_12 rfl (lv_at hl 0 rfl) ?_
    refine lv_iconst (v := (nI (0))) hx hb d_M_rootAt_13 (by decide) ?_
    refine tl_zast (a := i) hx hb hE.1 hP (tl_DV hap) hS 10 3 rfl rfl false rfl (by omega) (by decide) d_M_rootAt_14 (fun H locs hP hS => ?_)
    have hP : va_P D tl_cl (tl_V cJ cI cZ bd E nf tf hn hs rt dn wm cr cd pf pl O ol rw rl wh (upd th1 i (tl_bi false))) H := hP
    refine lv_iinc (k := 0) (v := (nI (i + 1))) (lv' := [(3, .int (nI (i + 1))), (0, .ref (bd 0)), (1, .int (nI (a))), (2, .int (nI (n)))]) hx hb d_M_rootAt_15 hl rfl (by rw [lit1]; exact (nI_succ _).symm) (by decide) rfl (fun ls hl => ?_)
    refine lv_goto (tgt := 2) hx hb d_M_rootAt_18 (by decide) ?_
    exact ih2 (n2 - 1) _ _ _ (by omega) ⟨i + 1, (upd th1 i (tl_bi false)), lv_sub hl [0, 1, 2, 3] rfl, hP, hS, by omega, by omega, tl_th0 ht0⟩

set_option maxHeartbeats 4000000 in
set_option maxRecDepth 100000 in
theorem c_M_write (l : Launch) (D : va_G) (cJ cI cG cZ : ClassId) (bd : Nat → Nat) (E : Nat → Int64) (nf : Nat) (tf : Nat → Int64) (hn hs : Nat → Int32) (rt : Nat → Int64) (dn : Bool) (wm cr : Int32) (pf : Nat → Int64) (pl : Nat) (O : Nat → Int64) (ol : Nat) (rw : Nat → Int64) (rl : Nat) (wh : Nat → Int64) (th : Nat → Int32)  (hap : tl_ap bd 11) : Met l y_M_write (k_M_write :: tl_ws) { frames := 0, cells := 0, slots := 0, locals := 0 } (tl_Pc D cJ cI cG cZ [.ref (bd 0)] (fun H => va_P D tl_cl (tl_V cJ cI cZ bd E nf tf hn hs rt dn wm cr false pf pl O ol rw rl wh th) H)) (tl_Qi (tl_bi (tl_wB cr)) (fun H => va_P D tl_cl (tl_V cJ cI cZ bd E nf tf hn hs rt (tl_wD cr dn) (tl_wW cr wm) (tl_wC cr) (!tl_wB cr) pf pl O ol rw rl wh th) H) (tl_in bd 11)) 0 0 (tl_in bd 11) := by
  refine Met.ofW (cc := b_M_write) (maxL := 1) (ret := (some .boolean)) (by decide) rfl ?_
  intro p e s m args below meth c s₁ B hml hv
  obtain ⟨rfl, hE, hP⟩ := hv
  have hx := B.exec
  have hb := B.bytes
  have hr := B.returns
  have hw : ∀ w ∈ tl_ws, w.before ([.ref (bd 0)] : List Value).toArray s = true := fun w h => atoms_spec (ws := k_M_write :: tl_ws) B.pre w (List.mem_cons_of_mem _ h)
  have hown : s.vm.findClass R_M = some m.cls := findClass_of_methodNamed B.named
  have hlocks := B.notSynchronized
  have hl := lv_entry ([.ref (bd 0)]) (n := 1) (Nat.le_of_ble_eq_true rfl)
  rw [lg_entry_eq]
  generalize (lg_sl ([.ref (bd 0)]) ++ List.replicate (1 - (lg_sl ([.ref (bd 0)])).length) Slot.unset).toArray = ls at hl ⊢
  have hl : lv_has ls 1 [(0, .ref (bd 0))] := hl
  have hP : va_P D tl_cl (tl_V cJ cI cZ bd E nf tf hn hs rt dn wm cr false pf pl O ol rw rl wh th) s.heap := hP
  have hS : va_S (tl_in bd 11) s.heap s.heap [] := va_S.rf
  refine lv_aload_n hx hb d_M_write_0 rfl (lv_at hl 0 rfl) ?_
  refine va_get (ci := 2) (v := .int (tl_bi (false))) (C := R_M) (T := F_M) (N := 18) hx hb hw iw_M hown hE.1 hP 0 rfl rfl 9 (by decide) (hw _ tl_m209) (fun _ h9 => h9) rfl d_M_write_1 ?_
  refine tl_bne (v := false) (tgt := 14) hx hb d_M_write_4 (by decide) (fun h => absurd h (by decide)) (fun _ => ?_)
  refine lv_aload_n hx hb d_M_write_7 rfl (lv_at hl 0 rfl) ?_
  refine va_get (ci := 2) (v := .int (cr)) (C := R_M) (T := F_M) (N := 18) hx hb hw iw_M hown hE.1 hP 0 rfl rfl 8 (by decide) (hw _ tl_m208) (fun _ h9 => h9) rfl d_M_write_8 ?_
  refine lv_if_ne (tgt := 31) hx hb d_M_write_11 (by decide) (fun h11 => ?_) (fun h11 => ?_)
  · -- 11 t
    refine lv_aload_n hx hb d_M_write_31 rfl (lv_at hl 0 rfl) ?_
    refine lv_aload_n hx hb d_M_write_32 rfl (lv_at hl 0 rfl) ?_
    refine va_get (ci := 2) (v := .int (cr)) (C := R_M) (T := F_M) (N := 18) hx hb hw iw_M hown hE.1 hP 0 rfl rfl 8 (by decide) (hw _ tl_m208) (fun _ h9 => h9) rfl d_M_write_33 ?_
    refine lv_if_le (tgt := 48) hx hb d_M_write_36 (by decide) (fun h36 => ?_) (fun h36 => ?_)
    · -- 36 t
      refine lv_aload_n hx hb d_M_write_48 rfl (lv_at hl 0 rfl) ?_
      refine va_get (ci := 2) (v := .int (cr)) (C := R_M) (T := F_M) (N := 18) hx hb hw iw_M hown hE.1 hP 0 rfl rfl 8 (by decide) (hw _ tl_m208) (fun _ h9 => h9) rfl d_M_write_49 ?_
      refine va_put (ci := 2) (v := .int (cr)) (ty := .int) (C := R_M) (T := F_M) (N := 18) hx hb hw iw_M ft_M ft_M_ok n_M hown hE.1 hP (tl_DV hap) hS 0 rfl rfl 8 (by decide) (hw _ tl_m208) (fun _ h9 => h9) rfl (by decide +kernel) rfl rfl (Nat.le_of_ble_eq_true rfl) d_M_write_52 (fun H locs hP _ hS => ?_)
      have hP : va_P D tl_cl (tl_V cJ cI cZ bd E nf tf hn hs rt dn wm cr false pf pl O ol rw rl wh th) H := hP
      refine lv_aload_n hx hb d_M_write_55 rfl (lv_at hl 0 rfl) ?_
      refine lv_aload_n hx hb d_M_write_56 rfl (lv_at hl 0 rfl) ?_
      refine va_get (ci := 2) (v := .int (wm)) (C := R_M) (T := F_M) (N := 18) hx hb hw iw_M hown hE.1 hP 0 rfl rfl 7 (by decide) (hw _ tl_m207) (fun _ h9 => h9) rfl d_M_write_57 ?_
      refine lv_iconst (v := (nI (1))) hx hb d_M_write_60 (by decide) ?_
      refine lv_iadd hx hb d_M_write_61 ?_
      refine lv_topi (nm_r (e' := (wm + 1)) (rfl) ?_)
      refine va_put (ci := 2) (v := .int (wm + 1)) (ty := .int) (C := R_M) (T := F_M) (N := 18) hx hb hw iw_M ft_M ft_M_ok n_M hown hE.1 hP (tl_DV hap) hS 0 rfl rfl 7 (by decide) (hw _ tl_m207) (fun _ h9 => h9) rfl (by decide +kernel) rfl rfl (Nat.le_of_ble_eq_true rfl) d_M_write_62 (fun H locs hP _ hS => ?_)
      have hP : va_P D tl_cl (tl_V cJ cI cZ bd E nf tf hn hs rt dn (wm + 1) cr false pf pl O ol rw rl wh th) H := hP
      refine lv_iconst (v := (nI (1))) hx hb d_M_write_65 (by decide) ?_
      refine lv_topi (nm_r (e' := tl_bi (tl_wB cr)) (by rw [tl_wB1 h11]; rfl) ?_)
      exact W.zret hx hb hr (tl_bi_nar _) (fun t9 ht9 _ => tl_endI hS (by show va_P D tl_cl (tl_V cJ cI cZ bd E nf tf hn hs rt (tl_wD cr dn) (tl_wW cr wm) (tl_wC cr) (!tl_wB cr) pf pl O ol rw rl wh th) _; rw [tl_wDn h11, tl_wWn h11, tl_wCn h11, tl_wB1 h11]; first | (rw [tl_dec1 h36]; exact hP) | (rw [tl_dec2 h36]; exact hP)) ht9) hS.2.2 d_M_write_66
    · -- 36 f
      refine lv_aload_n hx hb d_M_write_39 rfl (lv_at hl 0 rfl) ?_
      refine va_get (ci := 2) (v := .int (cr)) (C := R_M) (T := F_M) (N := 18) hx hb hw iw_M hown hE.1 hP 0 rfl rfl 8 (by decide) (hw _ tl_m208) (fun _ h9 => h9) rfl d_M_write_40 ?_
      refine lv_iconst (v := (nI (1))) hx hb d_M_write_43 (by decide) ?_
      refine lv_isub hx hb d_M_write_44 ?_
      refine lv_topi (nm_r (e' := (cr - 1)) (rfl) ?_)
      refine lv_goto (tgt := 52) hx hb d_M_write_45 (by decide) ?_
      refine va_put (ci := 2) (v := .int (cr - 1)) (ty := .int) (C := R_M) (T := F_M) (N := 18) hx hb hw iw_M ft_M ft_M_ok n_M hown hE.1 hP (tl_DV hap) hS 0 rfl rfl 8 (by decide) (hw _ tl_m208) (fun _ h9 => h9) rfl (by decide +kernel) rfl rfl (Nat.le_of_ble_eq_true rfl) d_M_write_52 (fun H locs hP _ hS => ?_)
      have hP : va_P D tl_cl (tl_V cJ cI cZ bd E nf tf hn hs rt dn wm (cr - 1) false pf pl O ol rw rl wh th) H := hP
      refine lv_aload_n hx hb d_M_write_55 rfl (lv_at hl 0 rfl) ?_
      refine lv_aload_n hx hb d_M_write_56 rfl (lv_at hl 0 rfl) ?_
      refine va_get (ci := 2) (v := .int (wm)) (C := R_M) (T := F_M) (N := 18) hx hb hw iw_M hown hE.1 hP 0 rfl rfl 7 (by decide) (hw _ tl_m207) (fun _ h9 => h9) rfl d_M_write_57 ?_
      refine lv_iconst (v := (nI (1))) hx hb d_M_write_60 (by decide) ?_
      refine lv_iadd hx hb d_M_write_61 ?_
      refine lv_topi (nm_r (e' := (wm + 1)) (rfl) ?_)
      refine va_put (ci := 2) (v := .int (wm + 1)) (ty := .int) (C := R_M) (T := F_M) (N := 18) hx hb hw iw_M ft_M ft_M_ok n_M hown hE.1 hP (tl_DV hap) hS 0 rfl rfl 7 (by decide) (hw _ tl_m207) (fun _ h9 => h9) rfl (by decide +kernel) rfl rfl (Nat.le_of_ble_eq_true rfl) d_M_write_62 (fun H locs hP _ hS => ?_)
      have hP : va_P D tl_cl (tl_V cJ cI cZ bd E nf tf hn hs rt dn (wm + 1) (cr - 1) false pf pl O ol rw rl wh th) H := hP
      refine lv_iconst (v := (nI (1))) hx hb d_M_write_65 (by decide) ?_
      refine lv_topi (nm_r (e' := tl_bi (tl_wB cr)) (by rw [tl_wB1 h11]; rfl) ?_)
      exact W.zret hx hb hr (tl_bi_nar _) (fun t9 ht9 _ => tl_endI hS (by show va_P D tl_cl (tl_V cJ cI cZ bd E nf tf hn hs rt (tl_wD cr dn) (tl_wW cr wm) (tl_wC cr) (!tl_wB cr) pf pl O ol rw rl wh th) _; rw [tl_wDn h11, tl_wWn h11, tl_wCn h11, tl_wB1 h11]; first | (rw [tl_dec1 h36]; exact hP) | (rw [tl_dec2 h36]; exact hP)) ht9) hS.2.2 d_M_write_66
  · -- 11 f
    refine lv_aload_n hx hb d_M_write_14 rfl (lv_at hl 0 rfl) ?_
    refine lv_iconst (v := (nI (1))) hx hb d_M_write_15 (by decide) ?_
    refine va_put (ci := 2) (v := .int (tl_bi (true))) (ty := .boolean) (C := R_M) (T := F_M) (N := 18) hx hb hw iw_M ft_M ft_M_ok n_M hown hE.1 hP (tl_DV hap) hS 0 rfl rfl 6 (by decide) (hw _ tl_m206) (fun _ h9 => h9) rfl (by decide +kernel) (tl_bi_nar _) (tl_bi_fit _) (Nat.le_of_ble_eq_true rfl) d_M_write_16 (fun H locs hP _ hS => ?_)
    have hP : va_P D tl_cl (tl_V cJ cI cZ bd E nf tf hn hs rt true wm cr false pf pl O ol rw rl wh th) H := hP
    refine lv_aload_n hx hb d_M_write_19 rfl (lv_at hl 0 rfl) ?_
    refine lv_iconst (v := (nI (1))) hx hb d_M_write_20 (by decide) ?_
    refine va_put (ci := 2) (v := .int (tl_bi (true))) (ty := .boolean) (C := R_M) (T := F_M) (N := 18) hx hb hw iw_M ft_M ft_M_ok n_M hown hE.1 hP (tl_DV hap) hS 0 rfl rfl 9 (by decide) (hw _ tl_m209) (fun _ h9 => h9) rfl (by decide +kernel) (tl_bi_nar _) (tl_bi_fit _) (Nat.le_of_ble_eq_true rfl) d_M_write_21 (fun H locs hP _ hS => ?_)
    have hP : va_P D tl_cl (tl_V cJ cI cZ bd E nf tf hn hs rt true wm cr true pf pl O ol rw rl wh th) H := hP
    refine lv_aload_n hx hb d_M_write_24 rfl (lv_at hl 0 rfl) ?_
    refine lv_iconst (v := (-1)) hx hb d_M_write_25 (by decide) ?_
    refine va_put (ci := 2) (v := .int (-1)) (ty := .int) (C := R_M) (T := F_M) (N := 18) hx hb hw iw_M ft_M ft_M_ok n_M hown hE.1 hP (tl_DV hap) hS 0 rfl rfl 8 (by decide) (hw _ tl_m208) (fun _ h9 => h9) rfl (by decide +kernel) rfl rfl (Nat.le_of_ble_eq_true rfl) d_M_write_26 (fun H locs hP _ hS => ?_)
    have hP : va_P D tl_cl (tl_V cJ cI cZ bd E nf tf hn hs rt true wm (-1) true pf pl O ol rw rl wh th) H := hP
    refine lv_iconst (v := (nI (0))) hx hb d_M_write_29 (by decide) ?_
    refine lv_topi (nm_r (e' := tl_bi (tl_wB cr)) (by rw [tl_wB0 h11]; rfl) ?_)
    exact W.zret hx hb hr (tl_bi_nar _) (fun t9 ht9 _ => tl_endI hS (by show va_P D tl_cl (tl_V cJ cI cZ bd E nf tf hn hs rt (tl_wD cr dn) (tl_wW cr wm) (tl_wC cr) (!tl_wB cr) pf pl O ol rw rl wh th) _; rw [tl_wD0 h11, tl_wW0 h11, tl_wC0 h11, tl_wB0 h11]; exact hP) ht9) hS.2.2 d_M_write_30

set_option maxHeartbeats 4000000 in
set_option maxRecDepth 100000 in
theorem c_M_rightAt (l : Launch) (D : va_G) (cJ cI cG cZ : ClassId) (bd : Nat → Nat) (E : Nat → Int64) (nf : Nat) (tf : Nat → Int64) (hn hs : Nat → Int32) (rt : Nat → Int64) (dn : Bool) (wm cr : Int32) (cd : Bool) (pf : Nat → Int64) (pl : Nat) (O : Nat → Int64) (ol : Nat) (rw : Nat → Int64) (rl : Nat) (wh : Nat → Int64) (th : Nat → Int32) (t i n : Nat) (hap : tl_ap bd 11) (ht : t < 9) (hi : i < 8) (hn2 : n ≤ 64) : Met l y_M_rightAt (k_M_rightAt :: tl_ws) { frames := 3, cells := 0, slots := 0, locals := 76 } (tl_Pc D cJ cI cG cZ [.ref (bd 0), .int (nI (t)), .int (nI (i)), .int (nI (n))] (fun H => va_P D tl_cl (tl_V cJ cI cZ bd E nf tf hn hs rt dn wm cr cd pf pl O ol rw rl wh th) H)) (tl_Ql (tl_right E n t i) (fun H => ∃ (wh9 : Nat → Int64) (th9 : Nat → Int32), va_P D tl_cl (tl_V cJ cI cZ bd E nf tf hn hs rt dn wm cr cd pf pl O ol rw rl wh9 th9) H) (tl_in bd 11)) 0 0 (tl_in bd 11) := by
  refine Met.ofW (cc := b_M_rightAt) (maxL := 4) (ret := (some .long)) (by decide) rfl ?_
  intro p e s m args below meth c s₁ B hml hv
  obtain ⟨rfl, hE, hP⟩ := hv
  have hx := B.exec
  have hb := B.bytes
  have hr := B.returns
  have hw : ∀ w ∈ tl_ws, w.before ([.ref (bd 0), .int (nI (t)), .int (nI (i)), .int (nI (n))] : List Value).toArray s = true := fun w h => atoms_spec (ws := k_M_rightAt :: tl_ws) B.pre w (List.mem_cons_of_mem _ h)
  have hown : s.vm.findClass R_M = some m.cls := findClass_of_methodNamed B.named
  have hlocks := B.notSynchronized
  have hl := lv_entry ([.ref (bd 0), .int (nI (t)), .int (nI (i)), .int (nI (n))]) (n := 4) (Nat.le_of_ble_eq_true rfl)
  rw [lg_entry_eq]
  generalize (lg_sl ([.ref (bd 0), .int (nI (t)), .int (nI (i)), .int (nI (n))]) ++ List.replicate (4 - (lg_sl ([.ref (bd 0), .int (nI (t)), .int (nI (i)), .int (nI (n))])).length) Slot.unset).toArray = ls at hl ⊢
  have hl : lv_has ls 4 [(0, .ref (bd 0)), (1, .int (nI (t))), (2, .int (nI (i))), (3, .int (nI (n)))] := hl
  have hP : va_P D tl_cl (tl_V cJ cI cZ bd E nf tf hn hs rt dn wm cr cd pf pl O ol rw rl wh th) s.heap := hP
  have hS : va_S (tl_in bd 11) s.heap s.heap [] := va_S.rf
  refine lv_iload_n hx hb d_M_rightAt_0 rfl (lv_at hl 1 rfl) ?_
  refine lv_bipush (v := (nI (8))) hx hb d_M_rightAt_1 (by decide) ?_
  refine tl_cge (tgt := 35) (by omega) (by omega) hx hb d_M_rightAt_3 (by decide) (fun h3 => ?_) (fun h3 => ?_)
  · -- 3 t
    refine lv_bipush (v := (nI (8))) hx hb d_M_rightAt_35 (by decide) ?_
    refine lv_iload_n hx hb d_M_rightAt_37 rfl (lv_at hl 2 rfl) ?_
    refine lv_imul hx hb d_M_rightAt_38 ?_
    refine lv_topi (nm_r (e' := (nI (8 * i))) (pk_mul _ _) ?_)
    refine lv_bipush (v := (nI (8))) hx hb d_M_rightAt_39 (by decide) ?_
    refine lv_iadd hx hb d_M_rightAt_41 ?_
    refine lv_topi (nm_r (e' := (nI ((8 * i) + 8))) (nI_add _ _) ?_)
    refine lv_iload_n hx hb d_M_rightAt_42 rfl (lv_at hl 3 rfl) ?_
    refine tl_cgt (tgt := 59) (by omega) (by omega) hx hb d_M_rightAt_43 (by decide) (fun h43 => ?_) (fun h43 => ?_)
    · -- 43 t
      refine lv_lconst (v := 0) hx hb d_M_rightAt_59 (by decide) ?_
      refine lv_topl (nm_r (e' := tl_right E n t i) ((by rw [tl_right_hi (by omega), Nat.mul_comm i 8]; first | (rw [if_pos h43]; done) | rw [if_neg (by omega)])) ?_)
      exact W.lret hx hb hr (fun t9 ht9 _ => tl_endL hS (⟨wh, th, hP⟩) ht9) hS.2.2 d_M_rightAt_60
    · -- 43 f
      refine lv_aload_n hx hb d_M_rightAt_46 rfl (lv_at hl 0 rfl) ?_
      refine lv_bipush (v := (nI (8))) hx hb d_M_rightAt_47 (by decide) ?_
      refine lv_iload_n hx hb d_M_rightAt_49 rfl (lv_at hl 2 rfl) ?_
      refine lv_imul hx hb d_M_rightAt_50 ?_
      refine lv_topi (nm_r (e' := (nI (8 * i))) (pk_mul _ _) ?_)
      refine lv_bipush (v := (nI (8))) hx hb d_M_rightAt_51 (by decide) ?_
      refine tl_doL (v := (tl_root E (8 * i) 8)) (va_runV (As := [.int (nI (8 * i)), .int (nI (8))]) (rest := []) ⟨hx, hb, hml, hown, hw⟩ (c_M_rootAt l D cJ cI cG cZ bd E nf tf hn hs rt dn wm cr cd pf pl O ol rw rl wh th (8 * i) 8 hap (by omega)) (⟨tl_cB hw tl_m253 tl_m3 tl_m251 dd_M_rootAt rfl rfl ⟨Nat.le_of_ble_eq_true rfl, Nat.le_of_ble_eq_true rfl⟩, hw _ tl_m252, hw _ tl_m374⟩) (tl_preV hE hP (va_recv (q0 := 0) (ci := 2) (q := (R_M, F_M, 18)) hE.1 hP rfl rfl)) rfl rfl hl.1 rfl (lv_room (Nat.le_of_ble_eq_true rfl)) d_M_rightAt_53 ⟨Nat.zero_le _, Nat.zero_le _⟩) hS (fun _ h => h) (fun H locs hX hS _ => ?_)
      obtain ⟨wz1, tz2, hP⟩ := hX
      have hP : va_P D tl_cl (tl_V cJ cI cZ bd E nf tf hn hs rt dn wm cr cd pf pl O ol rw rl wz1 tz2) H := hP
      refine lv_goto (tgt := 60) hx hb d_M_rightAt_56 (by decide) ?_
      refine lv_topl (nm_r (e' := tl_right E n t i) ((by rw [tl_right_hi (by omega), Nat.mul_comm i 8]; first | (rw [if_pos h43]; done) | rw [if_neg (by omega)])) ?_)
      exact W.lret hx hb hr (fun t9 ht9 _ => tl_endL hS (⟨wz1, tz2, hP⟩) ht9) hS.2.2 d_M_rightAt_60
  · -- 3 f
    refine lv_bipush (v := (nI (8))) hx hb d_M_rightAt_6 (by decide) ?_
    refine lv_iload_n hx hb d_M_rightAt_8 rfl (lv_at hl 1 rfl) ?_
    refine lv_imul hx hb d_M_rightAt_9 ?_
    refine lv_topi (nm_r (e' := (nI (8 * t))) (pk_mul _ _) ?_)
    refine lv_iload_n hx hb d_M_rightAt_10 rfl (lv_at hl 2 rfl) ?_
    refine lv_iadd hx hb d_M_rightAt_11 ?_
    refine lv_topi (nm_r (e' := (nI ((8 * t) + i))) (nI_add _ _) ?_)
    refine lv_iload_n hx hb d_M_rightAt_12 rfl (lv_at hl 3 rfl) ?_
    refine tl_cge (tgt := 33) (by omega) (by omega) hx hb d_M_rightAt_13 (by decide) (fun h13 => ?_) (fun h13 => ?_)
    · -- 13 t
      refine lv_lconst (v := 0) hx hb d_M_rightAt_33 (by decide) ?_
      refine lv_topl (nm_r (e' := tl_right E n t i) ((by rw [tl_right_lo (by omega), Nat.mul_comm t 8]; first | (rw [if_pos h13]; done) | rw [if_neg (by omega)])) ?_)
      exact W.lret hx hb hr (fun t9 ht9 _ => tl_endL hS (⟨wh, th, hP⟩) ht9) hS.2.2 d_M_rightAt_34
    · -- 13 f
      refine lv_aload_n hx hb d_M_rightAt_16 rfl (lv_at hl 0 rfl) ?_
      refine va_get (ci := 2) (v := .ref (bd 1)) (C := R_M) (T := F_M) (N := 18) hx hb hw iw_M hown hE.1 hP 0 rfl rfl 1 (by decide) (hw _ tl_m201) (fun _ h9 => h9) rfl d_M_rightAt_17 ?_
      refine lv_bipush (v := (nI (8))) hx hb d_M_rightAt_20 (by decide) ?_
      refine lv_iload_n hx hb d_M_rightAt_22 rfl (lv_at hl 1 rfl) ?_
      refine lv_imul hx hb d_M_rightAt_23 ?_
      refine lv_topi (nm_r (e' := (nI (8 * t))) (pk_mul _ _) ?_)
      refine lv_iload_n hx hb d_M_rightAt_24 rfl (lv_at hl 2 rfl) ?_
      refine lv_iadd hx hb d_M_rightAt_25 ?_
      refine lv_topi (nm_r (e' := (nI ((8 * t) + i))) (nI_add _ _) ?_)
      refine tl_lald (a := ((8 * t) + i)) hx hb hE.1 hP 1 0 rfl rfl (by omega) (by decide) d_M_rightAt_26 ?_
      refine tl_goL (v := (tl_leaf (E ((8 * t) + i)))) (va_runS (As := [.long (E ((8 * t) + i))]) (rest := []) ⟨hx, hb, hml, hown, hw⟩ (c_M_leaf l (E ((8 * t) + i))) (⟨tl_cB hw tl_m244 tl_m3 tl_m242 dd_M_leaf rfl rfl ⟨Nat.le_of_ble_eq_true rfl, Nat.le_of_ble_eq_true rfl⟩, hw _ tl_m243⟩) (tl_pre0) rfl rfl hl.1 rfl (lv_room (Nat.le_of_ble_eq_true rfl)) d_M_rightAt_27 ⟨Nat.zero_le _, Nat.zero_le _⟩) ?_
      refine lv_goto (tgt := 34) hx hb d_M_rightAt_30 (by decide) ?_
      refine lv_topl (nm_r (e' := tl_right E n t i) ((by rw [tl_right_lo (by omega), Nat.mul_comm t 8]; first | (rw [if_pos h13]; done) | rw [if_neg (by omega)])) ?_)
      exact W.lret hx hb hr (fun t9 ht9 _ => tl_endL hS (⟨wh, th, hP⟩) ht9) hS.2.2 d_M_rightAt_34
