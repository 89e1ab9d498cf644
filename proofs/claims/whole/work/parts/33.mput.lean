set_option maxHeartbeats 4000000 in
set_option maxRecDepth 100000 in
theorem c_M_putRight (l : Launch) (D : va_G) (cJ cI cG cZ : ClassId) (bd : Nat → Nat) (E : Nat → Int64) (nf : Nat) (tf : Nat → Int64) (hn hs : Nat → Int32) (rt : Nat → Int64) (dn : Bool) (wm cr : Int32) (pf : Nat → Int64) (pl : Nat) (O : Nat → Int64) (ol : Nat) (rw : Nat → Int64) (rl : Nat) (wh : Nat → Int64) (th : Nat → Int32) (T : Nat → Nat → Int64) (n : Nat) (hap : tl_ap bd 11) (htf : ∀ q, q < 72 → tf q = T (q / 8) (q % 8)) (hn2 : n ≤ 64) : Met l y_M_putRight (k_M_putRight :: tl_ws) { frames := 4, cells := 0, slots := 0, locals := 99 } (tl_Pc D cJ cI cG cZ [.ref (bd 0), .int (nI (n))] (fun H => va_P D tl_cl (tl_V cJ cI cZ bd E nf tf hn hs rt dn wm cr false pf pl O ol rw rl wh th) H)) (tl_Qv (fun H => ∃ (tf9 wh9 : Nat → Int64) (th9 : Nat → Int32), (∀ q, q < 72 → tf9 q = (tl_put E n 9 0 (T, cr, dn, wm)).2.1 (q / 8) (q % 8)) ∧ va_P D tl_cl (tl_V cJ cI cZ bd E nf tf9 hn hs rt ((tl_put E n 9 0 (T, cr, dn, wm)).2.2.2.1) ((tl_put E n 9 0 (T, cr, dn, wm)).2.2.2.2) ((tl_put E n 9 0 (T, cr, dn, wm)).2.2.1) (!(tl_put E n 9 0 (T, cr, dn, wm)).1) pf pl O ol rw rl wh9 th9) H) (tl_in bd 11)) 0 0 (tl_in bd 11) := by
  refine Met.ofW (cc := b_M_putRight) (maxL := 5) (ret := none) (by decide) rfl ?_
  intro p e s m args below meth c s₁ B hml hv
  obtain ⟨rfl, hE, hP⟩ := hv
  have hx := B.exec
  have hb := B.bytes
  have hr := B.returns
  have hw : ∀ w ∈ tl_ws, w.before ([.ref (bd 0), .int (nI (n))] : List Value).toArray s = true := fun w h => atoms_spec (ws := k_M_putRight :: tl_ws) B.pre w (List.mem_cons_of_mem _ h)
  have hown : s.vm.findClass R_M = some m.cls := findClass_of_methodNamed B.named
  have hlocks := B.notSynchronized
  have hl := lv_entry ([.ref (bd 0), .int (nI (n))]) (n := 5) (Nat.le_of_ble_eq_true rfl)
  rw [lg_entry_eq]
  generalize (lg_sl ([.ref (bd 0), .int (nI (n))]) ++ List.replicate (5 - (lg_sl ([.ref (bd 0), .int (nI (n))])).length) Slot.unset).toArray = ls at hl ⊢
  have hl : lv_has ls 5 [(0, .ref (bd 0)), (1, .int (nI (n)))] := hl
  have hP : va_P D tl_cl (tl_V cJ cI cZ bd E nf tf hn hs rt dn wm cr false pf pl O ol rw rl wh th) s.heap := hP
  have hS : va_S (tl_in bd 11) s.heap s.heap [] := va_S.rf
  refine lv_iconst (v := (nI (0))) hx hb d_M_putRight_0 (by decide) ?_
  refine lv_istore_n (lv' := [(2, .int (nI (0))), (0, .ref (bd 0)), (1, .int (nI (n)))]) hx hb d_M_putRight_1 rfl hl (by decide) rfl (fun ls hl => ?_)
  refine tl_loopW (fun n2 ls H locs => ∃ (t : Nat) (T1 : Nat → Nat → Int64) (tf1 : Nat → Int64) (cr1 : Int32) (dn1 : Bool) (wm1 : Int32) (cd1 : Bool) (wh1 : Nat → Int64) (th1 : Nat → Int32), lv_has ls 5 [(2, .int (nI (t))), (0, .ref (bd 0)), (1, .int (nI (n)))] ∧ va_P D tl_cl (tl_V cJ cI cZ bd E nf tf1 hn hs rt dn1 wm1 cr1 cd1 pf pl O ol rw rl wh1 th1) H ∧ va_S (tl_in bd 11) s.heap H locs ∧ (t ≤ 9) ∧ (n2 = 9 - t) ∧ (∀ q, q < 72 → tf1 q = T1 (q / 8) (q % 8)) ∧ (tl_pq cd1 E n (9 - t) t (T1, cr1, dn1, wm1) = tl_put E n 9 0 (T, cr, dn, wm))) (fun n2 ls H locs hI ih2 => ?_) 9 _ _ _ ⟨0, T, tf, cr, dn, wm, false, wh, th, lv_sub hl [0, 1, 2] rfl, hP, hS, by omega, by omega, htf, rfl⟩
  obtain ⟨t, T1, tf1, cr1, dn1, wm1, cd1, wh1, th1, hl, hP, hS, ht, hm, htf1, hq⟩ := hI
  refine lv_iload_n hx hb d_M_putRight_2 rfl (lv_at hl 0 rfl) ?_
  refine lv_bipush (v := (nI (9))) hx hb d_M_putRight_3 (by decide) ?_
  refine tl_cge (tgt := 120) (by omega) (by omega) hx hb d_M_putRight_5 (by decide) (fun h5 => ?_) (fun h5 => ?_)
  · -- 5 t
    exact W.vret hx hb hr (fun t9 ht9 _ => tl_endV hS (by rw [← hq]; first | (rw [show 9 - t = 0 by omega, tl_pq_0]; exact ⟨tf1, wh1, th1, htf1, by rw [Bool.not_not]; exact hP⟩) | (rw [h12] at hP ⊢; exact ⟨tf1, wh1, th1, htf1, hP⟩)) ht9) hS.2.2 d_M_putRight_120
  · -- 5 f
    refine lv_aload_n hx hb d_M_putRight_8 rfl (lv_at hl 1 rfl) ?_
    refine va_get (ci := 2) (v := .int (tl_bi (cd1))) (C := R_M) (T := F_M) (N := 18) hx hb hw iw_M hown hE.1 hP 0 rfl rfl 9 (by decide) (hw _ tl_m209) (fun _ h9 => h9) rfl d_M_putRight_9 ?_
    refine tl_bne (tgt := 120) hx hb d_M_putRight_12 (by decide) (fun h12 => ?_) (fun h12 => ?_)
    · -- 12 t
      exact W.vret hx hb hr (fun t9 ht9 _ => tl_endV hS (by rw [← hq]; first | (rw [show 9 - t = 0 by omega, tl_pq_0]; exact ⟨tf1, wh1, th1, htf1, by rw [Bool.not_not]; exact hP⟩) | (rw [h12] at hP ⊢; exact ⟨tf1, wh1, th1, htf1, hP⟩)) ht9) hS.2.2 d_M_putRight_120
    · -- 12 f
      subst h12
      refine lv_iconst (v := (nI (1))) hx hb d_M_putRight_15 (by decide) ?_
      refine lv_istore_n (lv' := [(3, .int (nI (1))), (2, .int (nI (t))), (0, .ref (bd 0)), (1, .int (nI (n)))]) hx hb d_M_putRight_16 rfl hl (by decide) rfl (fun ls hl => ?_)
      refine lv_iconst (v := (nI (0))) hx hb d_M_putRight_17 (by decide) ?_
      refine lv_istore (lv' := [(4, .int (nI (0))), (3, .int (nI (1))), (2, .int (nI (t))), (0, .ref (bd 0)), (1, .int (nI (n)))]) hx hb d_M_putRight_18 hl (by decide) rfl (fun ls hl => ?_)
      refine tl_loopW (fun n20 ls H locs => ∃ (i : Nat) (rg : Bool) (wh2 : Nat → Int64) (th2 : Nat → Int32), lv_has ls 5 [(4, .int (nI (i))), (3, .int (tl_bi (rg))), (2, .int (nI (t))), (0, .ref (bd 0)), (1, .int (nI (n)))] ∧ va_P D tl_cl (tl_V cJ cI cZ bd E nf tf1 hn hs rt dn1 wm1 cr1 false pf pl O ol rw rl wh2 th2) H ∧ va_S (tl_in bd 11) s.heap H locs ∧ (i ≤ 8) ∧ (n20 = 8 - i) ∧ (rg = tl_eqv (T1 t) (tl_right E n t) i)) (fun n20 ls H locs hI ih20 => ?_) 8 _ _ _ ⟨0, true, wh1, th1, lv_sub hl [0, 1, 2, 3, 4] rfl, hP, hS, by omega, by omega, tl_eqv_0⟩
      obtain ⟨i, rg, wh2, th2, hl, hP, hS, hi, hm2, hrg⟩ := hI
      refine lv_iload hx hb d_M_putRight_20 (lv_at hl 0 rfl) ?_
      refine lv_bipush (v := (nI (8))) hx hb d_M_putRight_22 (by decide) ?_
      refine tl_cge (tgt := 67) (by omega) (by omega) hx hb d_M_putRight_24 (by decide) (fun h24 => ?_) (fun h24 => ?_)
      · -- 24 t
        have hr8 : rg = tl_eqv (T1 t) (tl_right E n t) 8 := by rw [hrg, show i = 8 by omega]
        refine lv_iload_n hx hb d_M_putRight_67 rfl (lv_at hl 1 rfl) ?_
        refine tl_bne (tgt := 114) hx hb d_M_putRight_68 (by decide) (fun h68 => ?_) (fun h68 => ?_)
        · -- 68 t
          refine lv_iinc (k := 2) (v := (nI (t + 1))) (lv' := [(2, .int (nI (t + 1))), (4, .int (nI (i))), (3, .int (tl_bi (rg))), (0, .ref (bd 0)), (1, .int (nI (n)))]) hx hb d_M_putRight_114 hl rfl (by rw [lit1]; exact (nI_succ _).symm) (by decide) rfl (fun ls hl => ?_)
          refine lv_goto (tgt := 2) hx hb d_M_putRight_117 (by decide) ?_
          exact ih2 (n2 - 1) _ _ _ (by omega) ⟨t + 1, T1, tf1, cr1, dn1, wm1, false, wh2, th2, lv_sub hl [0, 3, 4] rfl, hP, hS, by omega, by omega, htf1, (by rw [← hq, tl_pq_f, tl_pq_f, show 9 - t = (9 - (t + 1)) + 1 by omega, tl_put_ok (tl_eqv_t (by rw [← hr8]; exact h68))])⟩
        · -- 68 f
          refine lv_aload_n hx hb d_M_putRight_71 rfl (lv_at hl 3 rfl) ?_
          refine tl_doI (v := (tl_bi (tl_wB cr1))) (va_runV (As := []) (rest := []) ⟨hx, hb, hml, hown, hw⟩ (c_M_write l D cJ cI cG cZ bd E nf tf1 hn hs rt dn1 wm1 cr1 pf pl O ol rw rl wh2 th2 hap) (⟨tl_cB hw tl_m225 tl_m3 tl_m223 dd_M_write rfl rfl ⟨Nat.le_of_ble_eq_true rfl, Nat.le_of_ble_eq_true rfl⟩, hw _ tl_m224, hw _ tl_m369⟩) (tl_preV hE hP (va_recv (q0 := 0) (ci := 2) (q := (R_M, F_M, 18)) hE.1 hP rfl rfl)) rfl rfl hl.1 rfl (lv_room (Nat.le_of_ble_eq_true rfl)) d_M_putRight_72 ⟨Nat.zero_le _, Nat.zero_le _⟩) hS (fun _ h => h) (fun H locs hP hS _ => ?_)
          have hP : va_P D tl_cl (tl_V cJ cI cZ bd E nf tf1 hn hs rt (tl_wD cr1 dn1) (tl_wW cr1 wm1) (tl_wC cr1) (!tl_wB cr1) pf pl O ol rw rl wh2 th2) H := hP
          refine tl_beq (tgt := 114) hx hb d_M_putRight_75 (by decide) (fun h75 => ?_) (fun h75 => ?_)
          · -- 75 t
            have hc := tl_wB_f h75
            rw [tl_wD0 hc, tl_wW0 hc, tl_wC0 hc, tl_wB0 hc] at hP
            have hP : va_P D tl_cl (tl_V cJ cI cZ bd E nf tf1 hn hs rt true wm1 (-1) true pf pl O ol rw rl wh2 th2) H := hP
            refine lv_iinc (k := 2) (v := (nI (t + 1))) (lv' := [(2, .int (nI (t + 1))), (4, .int (nI (i))), (3, .int (tl_bi (rg))), (0, .ref (bd 0)), (1, .int (nI (n)))]) hx hb d_M_putRight_114 hl rfl (by rw [lit1]; exact (nI_succ _).symm) (by decide) rfl (fun ls hl => ?_)
            refine lv_goto (tgt := 2) hx hb d_M_putRight_117 (by decide) ?_
            exact ih2 (n2 - 1) _ _ _ (by omega) ⟨t + 1, T1, tf1, -1, true, wm1, true, wh2, th2, lv_sub hl [0, 3, 4] rfl, hP, hS, by omega, by omega, htf1, (by rw [← hq, tl_pq_t, tl_pq_f, show 9 - t = (9 - (t + 1)) + 1 by omega, tl_put_no (tl_eqv_f (by rw [← hr8]; exact h68)) hc])⟩
          · -- 75 f
            have hc := tl_wB_t h75
            rw [tl_wDn hc, tl_wWn hc, tl_wCn hc, tl_wB1 hc] at hP
            have hP : va_P D tl_cl (tl_V cJ cI cZ bd E nf tf1 hn hs rt dn1 (wm1 + 1) (tl_dec cr1) false pf pl O ol rw rl wh2 th2) H := hP
            refine lv_iconst (v := (nI (0))) hx hb d_M_putRight_78 (by decide) ?_
            refine lv_istore (lv' := [(4, .int (nI (0))), (3, .int (tl_bi (rg))), (2, .int (nI (t))), (0, .ref (bd 0)), (1, .int (nI (n)))]) hx hb d_M_putRight_79 hl (by decide) rfl (fun ls hl => ?_)
            refine tl_loopW (fun n81 ls H locs => ∃ (i : Nat) (tf2 : Nat → Int64) (wh3 : Nat → Int64) (th3 : Nat → Int32), lv_has ls 5 [(4, .int (nI (i))), (2, .int (nI (t))), (0, .ref (bd 0)), (1, .int (nI (n)))] ∧ va_P D tl_cl (tl_V cJ cI cZ bd E nf tf2 hn hs rt dn1 (wm1 + 1) (tl_dec cr1) false pf pl O ol rw rl wh3 th3) H ∧ va_S (tl_in bd 11) s.heap H locs ∧ (i ≤ 8) ∧ (n81 = 8 - i) ∧ (∀ q, q < 72 → tf2 q = tl_tw T1 t i (tl_right E n t) q)) (fun n81 ls H locs hI ih81 => ?_) 8 _ _ _ ⟨0, tf1, wh2, th2, lv_sub hl [0, 2, 3, 4] rfl, hP, hS, by omega, by omega, (fun q hq9 => by rw [tl_tw_0]; exact htf1 q hq9)⟩
            obtain ⟨i, tf2, wh3, th3, hl, hP, hS, hi2, hm3, htw⟩ := hI
            refine lv_iload hx hb d_M_putRight_81 (lv_at hl 0 rfl) ?_
            refine lv_bipush (v := (nI (8))) hx hb d_M_putRight_83 (by decide) ?_
            refine tl_cge (tgt := 114) (by omega) (by omega) hx hb d_M_putRight_85 (by decide) (fun h85 => ?_) (fun h85 => ?_)
            · -- 85 t
              refine lv_iinc (k := 1) (v := (nI (t + 1))) (lv' := [(2, .int (nI (t + 1))), (4, .int (nI (i))), (0, .ref (bd 0)), (1, .int (nI (n)))]) hx hb d_M_putRight_114 hl rfl (by rw [lit1]; exact (nI_succ _).symm) (by decide) rfl (fun ls hl => ?_)
              refine lv_goto (tgt := 2) hx hb d_M_putRight_117 (by decide) ?_
              exact ih2 (n2 - 1) _ _ _ (by omega) ⟨t + 1, tl_setT T1 t (tl_right E n t), tf2, tl_dec cr1, dn1, wm1 + 1, false, wh3, th3, lv_sub hl [0, 2, 3] rfl, hP, hS, by omega, by omega, (tl_tw_8 (by rw [show i = 8 by omega] at htw; exact htw)), (by rw [← hq, tl_pq_f, tl_pq_f, show 9 - t = (9 - (t + 1)) + 1 by omega, tl_put_go (tl_eqv_f (by rw [← hr8]; exact h68)) hc])⟩
            · -- 85 f
              refine lv_aload_n hx hb d_M_putRight_88 rfl (lv_at hl 2 rfl) ?_
              refine va_get (ci := 2) (v := .ref (bd 2)) (C := R_M) (T := F_M) (N := 18) hx hb hw iw_M hown hE.1 hP 0 rfl rfl 2 (by decide) (hw _ tl_m202) (fun _ h9 => h9) rfl d_M_putRight_89 ?_
              refine lv_bipush (v := (nI (8))) hx hb d_M_putRight_92 (by decide) ?_
              refine lv_iload_n hx hb d_M_putRight_94 rfl (lv_at hl 1 rfl) ?_
              refine lv_imul hx hb d_M_putRight_95 ?_
              refine lv_topi (nm_r (e' := (nI (8 * t))) (pk_mul _ _) ?_)
              refine lv_iload hx hb d_M_putRight_96 (lv_at hl 0 rfl) ?_
              refine lv_iadd hx hb d_M_putRight_98 ?_
              refine lv_topi (nm_r (e' := (nI ((8 * t) + i))) (nI_add _ _) ?_)
              refine lv_aload_n hx hb d_M_putRight_99 rfl (lv_at hl 2 rfl) ?_
              refine lv_iload_n hx hb d_M_putRight_100 rfl (lv_at hl 1 rfl) ?_
              refine lv_iload hx hb d_M_putRight_101 (lv_at hl 0 rfl) ?_
              refine lv_iload_n hx hb d_M_putRight_103 rfl (lv_at hl 3 rfl) ?_
              refine tl_doL (v := (tl_right E n t i)) (va_runV (As := [.int (nI (t)), .int (nI (i)), .int (nI (n))]) (rest := [.int (nI ((8 * t) + i)), .ref (bd 2)]) ⟨hx, hb, hml, hown, hw⟩ (c_M_rightAt l D cJ cI cG cZ bd E nf tf2 hn hs rt dn1 (wm1 + 1) (tl_dec cr1) false pf pl O ol rw rl wh3 th3 t i n hap (by omega) (by omega) (by omega)) (⟨tl_cB hw tl_m241 tl_m3 tl_m239 dd_M_rightAt rfl rfl ⟨Nat.le_of_ble_eq_true rfl, Nat.le_of_ble_eq_true rfl⟩, hw _ tl_m240, hw _ tl_m373⟩) (tl_preV hE hP (va_recv (q0 := 0) (ci := 2) (q := (R_M, F_M, 18)) hE.1 hP rfl rfl)) rfl rfl hl.1 rfl (lv_room (Nat.le_of_ble_eq_true rfl)) d_M_putRight_104 ⟨Nat.zero_le _, Nat.zero_le _⟩) hS (fun _ h => h) (fun H locs hX hS _ => ?_)
              obtain ⟨wz1, tz2, hP⟩ := hX
              have hP : va_P D tl_cl (tl_V cJ cI cZ bd E nf tf2 hn hs rt dn1 (wm1 + 1) (tl_dec cr1) false pf pl O ol rw rl wz1 tz2) H := hP
              refine tl_last (a := ((8 * t) + i)) hx hb hE.1 hP (tl_DV hap) hS 2 0 rfl rfl (by omega) (by decide) d_M_putRight_107 (fun H locs hP hS => ?_)
              have hP : va_P D tl_cl (tl_V cJ cI cZ bd E nf (vp_updL tf2 ((8 * t) + i) (tl_right E n t i)) hn hs rt dn1 (wm1 + 1) (tl_dec cr1) false pf pl O ol rw rl wz1 tz2) H := hP
              refine lv_iinc (k := 0) (v := (nI (i + 1))) (lv' := [(4, .int (nI (i + 1))), (2, .int (nI (t))), (0, .ref (bd 0)), (1, .int (nI (n)))]) hx hb d_M_putRight_108 hl rfl (by rw [lit1]; exact (nI_succ _).symm) (by decide) rfl (fun ls hl => ?_)
              refine lv_goto (tgt := 81) hx hb d_M_putRight_111 (by decide) ?_
              exact ih81 (n81 - 1) _ _ _ (by omega) ⟨i + 1, (vp_updL tf2 ((8 * t) + i) (tl_right E n t i)), wz1, tz2, lv_sub hl [0, 1, 2, 3] rfl, hP, hS, by omega, by omega, tl_tw_s (by omega) htw⟩
      · -- 24 f
        refine lv_iload_n hx hb d_M_putRight_27 rfl (lv_at hl 1 rfl) ?_
        refine tl_beq (tgt := 59) hx hb d_M_putRight_28 (by decide) (fun h28 => ?_) (fun h28 => ?_)
        · -- 28 t
          refine lv_iconst (v := (nI (0))) hx hb d_M_putRight_59 (by decide) ?_
          refine lv_istore_n (lv' := [(3, .int (nI (0))), (4, .int (nI (i))), (2, .int (nI (t))), (0, .ref (bd 0)), (1, .int (nI (n)))]) hx hb d_M_putRight_60 rfl hl (by decide) rfl (fun ls hl => ?_)
          refine lv_iinc (k := 1) (v := (nI (i + 1))) (lv' := [(4, .int (nI (i + 1))), (3, .int (nI (0))), (2, .int (nI (t))), (0, .ref (bd 0)), (1, .int (nI (n)))]) hx hb d_M_putRight_61 hl rfl (by rw [lit1]; exact (nI_succ _).symm) (by decide) rfl (fun ls hl => ?_)
          refine lv_goto (tgt := 20) hx hb d_M_putRight_64 (by decide) ?_
          exact ih20 (n20 - 1) _ _ _ (by omega) ⟨i + 1, false, wh2, th2, lv_sub hl [0, 1, 2, 3, 4] rfl, hP, hS, by omega, by omega, by first | exact tl_eqv_F1 hrg h28 | exact tl_eqv_F2 h52⟩
        · -- 28 f
          refine lv_aload_n hx hb d_M_putRight_31 rfl (lv_at hl 3 rfl) ?_
          refine va_get (ci := 2) (v := .ref (bd 2)) (C := R_M) (T := F_M) (N := 18) hx hb hw iw_M hown hE.1 hP 0 rfl rfl 2 (by decide) (hw _ tl_m202) (fun _ h9 => h9) rfl d_M_putRight_32 ?_
          refine lv_bipush (v := (nI (8))) hx hb d_M_putRight_35 (by decide) ?_
          refine lv_iload_n hx hb d_M_putRight_37 rfl (lv_at hl 2 rfl) ?_
          refine lv_imul hx hb d_M_putRight_38 ?_
          refine lv_topi (nm_r (e' := (nI (8 * t))) (pk_mul _ _) ?_)
          refine lv_iload hx hb d_M_putRight_39 (lv_at hl 0 rfl) ?_
          refine lv_iadd hx hb d_M_putRight_41 ?_
          refine lv_topi (nm_r (e' := (nI ((8 * t) + i))) (nI_add _ _) ?_)
          refine tl_lald (a := ((8 * t) + i)) hx hb hE.1 hP 2 0 rfl rfl (by omega) (by decide) d_M_putRight_42 ?_
          refine lv_topl (nm_r (e' := (T1 t i)) (by rw [htf1 _ (by omega), show (8 * t + i) / 8 = t by omega, show (8 * t + i) % 8 = i by omega]) ?_)
          refine lv_aload_n hx hb d_M_putRight_43 rfl (lv_at hl 3 rfl) ?_
          refine lv_iload_n hx hb d_M_putRight_44 rfl (lv_at hl 2 rfl) ?_
          refine lv_iload hx hb d_M_putRight_45 (lv_at hl 0 rfl) ?_
          refine lv_iload_n hx hb d_M_putRight_47 rfl (lv_at hl 4 rfl) ?_
          refine tl_doL (v := (tl_right E n t i)) (va_runV (As := [.int (nI (t)), .int (nI (i)), .int (nI (n))]) (rest := [.long (T1 t i)]) ⟨hx, hb, hml, hown, hw⟩ (c_M_rightAt l D cJ cI cG cZ bd E nf tf1 hn hs rt dn1 wm1 cr1 false pf pl O ol rw rl wh2 th2 t i n hap (by omega) (by omega) (by omega)) (⟨tl_cB hw tl_m241 tl_m3 tl_m239 dd_M_rightAt rfl rfl ⟨Nat.le_of_ble_eq_true rfl, Nat.le_of_ble_eq_true rfl⟩, hw _ tl_m240, hw _ tl_m373⟩) (tl_preV hE hP (va_recv (q0 := 0) (ci := 2) (q := (R_M, F_M, 18)) hE.1 hP rfl rfl)) rfl rfl hl.1 rfl (lv_room (Nat.le_of_ble_eq_true rfl)) d_M_putRight_48 ⟨Nat.zero_le _, Nat.zero_le _⟩) hS (fun _ h => h) (fun H locs hX hS _ => ?_)
          obtain ⟨wz3, tz4, hP⟩ := hX
          have hP : va_P D tl_cl (tl_V cJ cI cZ bd E nf tf1 hn hs rt dn1 wm1 cr1 false pf pl O ol rw rl wz3 tz4) H := hP
          refine tl_lne (tgt := 59) hx hb d_M_putRight_51 d_M_putRight_52 (by decide) (fun h52 => ?_) (fun h52 => ?_)
          · -- 52 t
            refine lv_iconst (v := (nI (0))) hx hb d_M_putRight_59 (by decide) ?_
            refine lv_istore_n (lv' := [(3, .int (nI (0))), (4, .int (nI (i))), (2, .int (nI (t))), (0, .ref (bd 0)), (1, .int (nI (n)))]) hx hb d_M_putRight_60 rfl hl (by decide) rfl (fun ls hl => ?_)
            refine lv_iinc (k := 1) (v := (nI (i + 1))) (lv' := [(4, .int (nI (i + 1))), (3, .int (nI (0))), (2, .int (nI (t))), (0, .ref (bd 0)), (1, .int (nI (n)))]) hx hb d_M_putRight_61 hl rfl (by rw [lit1]; exact (nI_succ _).symm) (by decide) rfl (fun ls hl => ?_)
            refine lv_goto (tgt := 20) hx hb d_M_putRight_64 (by decide) ?_
            exact ih20 (n20 - 1) _ _ _ (by omega) ⟨i + 1, false, wz3, tz4, lv_sub hl [0, 1, 2, 3, 4] rfl, hP, hS, by omega, by omega, by first | exact tl_eqv_F1 hrg h28 | exact tl_eqv_F2 h52⟩
          · -- 52 f
            refine lv_iconst (v := (nI (1))) hx hb d_M_putRight_55 (by decide) ?_
            refine lv_goto (tgt := 60) hx hb d_M_putRight_56 (by decide) ?_
            refine lv_istore_n (lv' := [(3, .int (nI (1))), (4, .int (nI (i))), (2, .int (nI (t))), (0, .ref (bd 0)), (1, .int (nI (n)))]) hx hb d_M_putRight_60 rfl hl (by decide) rfl (fun ls hl => ?_)
            refine lv_iinc (k := 1) (v := (nI (i + 1))) (lv' := [(4, .int (nI (i + 1))), (3, .int (nI (1))), (2, .int (nI (t))), (0, .ref (bd 0)), (1, .int (nI (n)))]) hx hb d_M_putRight_61 hl rfl (by rw [lit1]; exact (nI_succ _).symm) (by decide) rfl (fun ls hl => ?_)
            refine lv_goto (tgt := 20) hx hb d_M_putRight_64 (by decide) ?_
            exact ih20 (n20 - 1) _ _ _ (by omega) ⟨i + 1, true, wz3, tz4, lv_sub hl [0, 1, 2, 3, 4] rfl, hP, hS, by omega, by omega, tl_eqv_T hrg h28 h52⟩

set_option maxHeartbeats 4000000 in
set_option maxRecDepth 100000 in
theorem c_M_say (l : Launch) (D : va_G) (cJ cI cG cZ : ClassId) (bd : Nat → Nat) (E : Nat → Int64) (nf : Nat) (tf : Nat → Int64) (hn hs : Nat → Int32) (rt : Nat → Int64) (dn : Bool) (wm cr : Int32) (cd : Bool) (pf : Nat → Int64) (pl : Nat) (O : Nat → Int64) (ol : Nat) (rw : Nat → Int64) (rl : Nat) (wh : Nat → Int64) (th : Nat → Int32) (x : Int64) (hap : tl_ap bd 11) (hpl : pl < 16) : Met l y_M_say (k_M_say :: tl_ws) { frames := 0, cells := 0, slots := 0, locals := 0 } (tl_Pc D cJ cI cG cZ [.ref (bd 0), .long (x)] (fun H => va_P D tl_cl (tl_V cJ cI cZ bd E nf tf hn hs rt dn wm cr cd pf pl O ol rw rl wh th) H)) (tl_Qv (fun H => va_P D tl_cl (tl_V cJ cI cZ bd E nf tf hn hs rt dn wm cr cd (vp_updL pf pl x) (pl + 1) O ol rw rl wh th) H) (tl_in bd 11)) 0 0 (tl_in bd 11) := by
  refine Met.ofW (cc := b_M_say) (maxL := 3) (ret := none) (by decide) rfl ?_
  intro p e s m args below meth c s₁ B hml hv
  obtain ⟨rfl, hE, hP⟩ := hv
  have hx := B.exec
  have hb := B.bytes
  have hr := B.returns
  have hw : ∀ w ∈ tl_ws, w.before ([.ref (bd 0), .long (x)] : List Value).toArray s = true := fun w h => atoms_spec (ws := k_M_say :: tl_ws) B.pre w (List.mem_cons_of_mem _ h)
  have hown : s.vm.findClass R_M = some m.cls := findClass_of_methodNamed B.named
  have hlocks := B.notSynchronized
  have hl := lv_entry ([.ref (bd 0), .long (x)]) (n := 3) (Nat.le_of_ble_eq_true rfl)
  rw [lg_entry_eq]
  generalize (lg_sl ([.ref (bd 0), .long (x)]) ++ List.replicate (3 - (lg_sl ([.ref (bd 0), .long (x)])).length) Slot.unset).toArray = ls at hl ⊢
  have hl : lv_has ls 3 [(0, .ref (bd 0)), (1, .long (x))] := hl
  have hP : va_P D tl_cl (tl_V cJ cI cZ bd E nf tf hn hs rt dn wm cr cd pf pl O ol rw rl wh th) s.heap := hP
  have hS : va_S (tl_in bd 11) s.heap s.heap [] := va_S.rf
  refine lv_aload_n hx hb d_M_say_0 rfl (lv_at hl 0 rfl) ?_
  refine va_get (ci := 2) (v := .ref (bd 6)) (C := R_M) (T := F_M) (N := 18) hx hb hw iw_M hown hE.1 hP 0 rfl rfl 11 (by decide) (hw _ tl_m211) (fun _ h9 => h9) rfl d_M_say_1 ?_
  refine lv_aload_n hx hb d_M_say_4 rfl (lv_at hl 0 rfl) ?_
  refine va_get (ci := 2) (v := .int (nI (pl))) (C := R_M) (T := F_M) (N := 18) hx hb hw iw_M hown hE.1 hP 0 rfl rfl 10 (by decide) (hw _ tl_m210) (fun _ h9 => h9) rfl d_M_say_5 ?_
  refine lv_lload_n hx hb d_M_say_8 rfl (lv_at hl 1 rfl) ?_
  refine tl_last (a := pl) hx hb hE.1 hP (tl_DV hap) hS 6 0 rfl rfl (by omega) (by decide) d_M_say_9 (fun H locs hP hS => ?_)
  have hP : va_P D tl_cl (tl_V cJ cI cZ bd E nf tf hn hs rt dn wm cr cd (vp_updL pf pl (x)) pl O ol rw rl wh th) H := hP
  refine lv_aload_n hx hb d_M_say_10 rfl (lv_at hl 0 rfl) ?_
  refine lv_aload_n hx hb d_M_say_11 rfl (lv_at hl 0 rfl) ?_
  refine va_get (ci := 2) (v := .int (nI (pl))) (C := R_M) (T := F_M) (N := 18) hx hb hw iw_M hown hE.1 hP 0 rfl rfl 10 (by decide) (hw _ tl_m210) (fun _ h9 => h9) rfl d_M_say_12 ?_
  refine lv_iconst (v := (nI (1))) hx hb d_M_say_15 (by decide) ?_
  refine lv_iadd hx hb d_M_say_16 ?_
  refine lv_topi (nm_r (e' := (nI (pl + 1))) (nI_add _ _) ?_)
  refine va_put (ci := 2) (v := .int (nI (pl + 1))) (ty := .int) (C := R_M) (T := F_M) (N := 18) hx hb hw iw_M ft_M ft_M_ok n_M hown hE.1 hP (tl_DV hap) hS 0 rfl rfl 10 (by decide) (hw _ tl_m210) (fun _ h9 => h9) rfl (by decide +kernel) rfl rfl (Nat.le_of_ble_eq_true rfl) d_M_say_17 (fun H locs hP _ hS => ?_)
  have hP : va_P D tl_cl (tl_V cJ cI cZ bd E nf tf hn hs rt dn wm cr cd (vp_updL pf pl (x)) (pl + 1) O ol rw rl wh th) H := hP
  exact W.vret hx hb hr (fun t9 ht9 _ => tl_endV hS (hP) ht9) hS.2.2 d_M_say_20

set_option maxHeartbeats 4000000 in
set_option maxRecDepth 100000 in
theorem c_M_turn (l : Launch) (D : va_G) (cJ cI cG cZ : ClassId) (bd : Nat → Nat) (E : Nat → Int64) (nf : Nat) (tf : Nat → Int64) (hn hs : Nat → Int32) (rt : Nat → Int64) (dn : Bool) (wm cr : Int32) (cd : Bool) (pf : Nat → Int64) (pl : Nat) (O : Nat → Int64) (ol : Nat) (rw : Nat → Int64) (rl : Nat) (wh : Nat → Int64) (th : Nat → Int32)  (hap : tl_ap bd 11) (hpl : pl ≤ 16) : Met l y_M_turn (k_M_turn :: tl_ws) { frames := 0, cells := 0, slots := 0, locals := 0 } (tl_Pc D cJ cI cG cZ [.ref (bd 0)] (fun H => va_P D tl_cl (tl_V cJ cI cZ bd E nf tf hn hs rt dn wm cr cd pf pl O ol rw rl wh th) H)) (tl_Qv (fun H => ∃ pf9 : Nat → Int64, (∀ k, k < pl → pf9 k = pf (pl - 1 - k)) ∧ va_P D tl_cl (tl_V cJ cI cZ bd E nf tf hn hs rt dn wm cr cd pf9 pl O ol rw rl wh th) H) (tl_in bd 11)) 0 0 (tl_in bd 11) := by
  refine Met.ofW (cc := b_M_turn) (maxL := 4) (ret := none) (by decide) rfl ?_
  intro p e s m args below meth c s₁ B hml hv
  obtain ⟨rfl, hE, hP⟩ := hv
  have hx := B.exec
  have hb := B.bytes
  have hr := B.returns
  have hw : ∀ w ∈ tl_ws, w.before ([.ref (bd 0)] : List Value).toArray s = true := fun w h => atoms_spec (ws := k_M_turn :: tl_ws) B.pre w (List.mem_cons_of_mem _ h)
  have hown : s.vm.findClass R_M = some m.cls := findClass_of_methodNamed B.named
  have hlocks := B.notSynchronized
  have hl := lv_entry ([.ref (bd 0)]) (n := 4) (Nat.le_of_ble_eq_true rfl)
  rw [lg_entry_eq]
  generalize (lg_sl ([.ref (bd 0)]) ++ List.replicate (4 - (lg_sl ([.ref (bd 0)])).length) Slot.unset).toArray = ls at hl ⊢
  have hl : lv_has ls 4 [(0, .ref (bd 0))] := hl
  have hP : va_P D tl_cl (tl_V cJ cI cZ bd E nf tf hn hs rt dn wm cr cd pf pl O ol rw rl wh th) s.heap := hP
  have hS : va_S (tl_in bd 11) s.heap s.heap [] := va_S.rf
  refine lv_iconst (v := (nI (0))) hx hb d_M_turn_0 (by decide) ?_
  refine lv_istore_n (lv' := [(1, .int (nI (0))), (0, .ref (bd 0))]) hx hb d_M_turn_1 rfl hl (by decide) rfl (fun ls hl => ?_)
  refine tl_loopW (fun n2 ls H locs => ∃ (i : Nat) (pf1 : Nat → Int64), lv_has ls 4 [(1, .int (nI (i))), (0, .ref (bd 0))] ∧ va_P D tl_cl (tl_V cJ cI cZ bd E nf tf hn hs rt dn wm cr cd pf1 pl O ol rw rl wh th) H ∧ va_S (tl_in bd 11) s.heap H locs ∧ (i ≤ pl / 2) ∧ (n2 = pl / 2 - i) ∧ (tl_tu pf pl i pf1)) (fun n2 ls H locs hI ih2 => ?_) (pl / 2) _ _ _ ⟨0, pf, lv_sub hl [0, 1] rfl, hP, hS, by omega, by omega, tl_tu_0⟩
  obtain ⟨i, pf1, hl, hP, hS, hi, hm, htu⟩ := hI
  refine lv_iload_n hx hb d_M_turn_2 rfl (lv_at hl 0 rfl) ?_
  refine lv_aload_n hx hb d_M_turn_3 rfl (lv_at hl 1 rfl) ?_
  refine va_get (ci := 2) (v := .int (nI (pl))) (C := R_M) (T := F_M) (N := 18) hx hb hw iw_M hown hE.1 hP 0 rfl rfl 10 (by decide) (hw _ tl_m210) (fun _ h9 => h9) rfl d_M_turn_4 ?_
  refine lv_iconst (v := (nI (2))) hx hb d_M_turn_7 (by decide) ?_
  refine lv_idiv hx hb d_M_turn_8 (by decide) ?_
  refine lv_topi (nm_r (e' := (nI (pl / 2))) (pk_div (by omega) (by omega) (by omega)) ?_)
  refine tl_cge (tgt := 58) (by omega) (by omega) hx hb d_M_turn_9 (by decide) (fun h9 => ?_) (fun h9 => ?_)
  · -- 9 t
    exact W.vret hx hb hr (fun t9 ht9 _ => tl_endV hS (⟨pf1, tl_tu_e (by omega) (by omega) htu, hP⟩) ht9) hS.2.2 d_M_turn_58
  · -- 9 f
    refine lv_aload_n hx hb d_M_turn_12 rfl (lv_at hl 1 rfl) ?_
    refine va_get (ci := 2) (v := .ref (bd 6)) (C := R_M) (T := F_M) (N := 18) hx hb hw iw_M hown hE.1 hP 0 rfl rfl 11 (by decide) (hw _ tl_m211) (fun _ h9 => h9) rfl d_M_turn_13 ?_
    refine lv_iload_n hx hb d_M_turn_16 rfl (lv_at hl 0 rfl) ?_
    refine tl_lald (a := i) hx hb hE.1 hP 6 0 rfl rfl (by omega) (by decide) d_M_turn_17 ?_
    refine lv_lstore_n (lv' := [(2, .long (pf1 i)), (1, .int (nI (i))), (0, .ref (bd 0))]) hx hb d_M_turn_18 rfl hl (by decide) rfl (fun ls hl => ?_)
    refine lv_aload_n hx hb d_M_turn_19 rfl (lv_at hl 2 rfl) ?_
    refine va_get (ci := 2) (v := .ref (bd 6)) (C := R_M) (T := F_M) (N := 18) hx hb hw iw_M hown hE.1 hP 0 rfl rfl 11 (by decide) (hw _ tl_m211) (fun _ h9 => h9) rfl d_M_turn_20 ?_
    refine lv_iload_n hx hb d_M_turn_23 rfl (lv_at hl 1 rfl) ?_
    refine lv_aload_n hx hb d_M_turn_24 rfl (lv_at hl 2 rfl) ?_
    refine va_get (ci := 2) (v := .ref (bd 6)) (C := R_M) (T := F_M) (N := 18) hx hb hw iw_M hown hE.1 hP 0 rfl rfl 11 (by decide) (hw _ tl_m211) (fun _ h9 => h9) rfl d_M_turn_25 ?_
    refine lv_aload_n hx hb d_M_turn_28 rfl (lv_at hl 2 rfl) ?_
    refine va_get (ci := 2) (v := .int (nI (pl))) (C := R_M) (T := F_M) (N := 18) hx hb hw iw_M hown hE.1 hP 0 rfl rfl 10 (by decide) (hw _ tl_m210) (fun _ h9 => h9) rfl d_M_turn_29 ?_
    refine lv_iconst (v := (nI (1))) hx hb d_M_turn_32 (by decide) ?_
    refine lv_isub hx hb d_M_turn_33 ?_
    refine lv_topi (nm_r (e' := (nI (pl - 1))) (pk_sub (by omega)) ?_)
    refine lv_iload_n hx hb d_M_turn_34 rfl (lv_at hl 1 rfl) ?_
    refine lv_isub hx hb d_M_turn_35 ?_
    refine lv_topi (nm_r (e' := (nI ((pl - 1) - i))) (pk_sub (by omega)) ?_)
    refine tl_lald (a := ((pl - 1) - i)) hx hb hE.1 hP 6 0 rfl rfl (by omega) (by decide) d_M_turn_36 ?_
    refine tl_last (a := i) hx hb hE.1 hP (tl_DV hap) hS 6 0 rfl rfl (by omega) (by decide) d_M_turn_37 (fun H locs hP hS => ?_)
    have hP : va_P D tl_cl (tl_V cJ cI cZ bd E nf tf hn hs rt dn wm cr cd (vp_updL pf1 i (pf1 ((pl - 1) - i))) pl O ol rw rl wh th) H := hP
    refine lv_aload_n hx hb d_M_turn_38 rfl (lv_at hl 2 rfl) ?_
    refine va_get (ci := 2) (v := .ref (bd 6)) (C := R_M) (T := F_M) (N := 18) hx hb hw iw_M hown hE.1 hP 0 rfl rfl 11 (by decide) (hw _ tl_m211) (fun _ h9 => h9) rfl d_M_turn_39 ?_
    refine lv_aload_n hx hb d_M_turn_42 rfl (lv_at hl 2 rfl) ?_
    refine va_get (ci := 2) (v := .int (nI (pl))) (C := R_M) (T := F_M) (N := 18) hx hb hw iw_M hown hE.1 hP 0 rfl rfl 10 (by decide) (hw _ tl_m210) (fun _ h9 => h9) rfl d_M_turn_43 ?_
    refine lv_iconst (v := (nI (1))) hx hb d_M_turn_46 (by decide) ?_
    refine lv_isub hx hb d_M_turn_47 ?_
    refine lv_topi (nm_r (e' := (nI (pl - 1))) (pk_sub (by omega)) ?_)
    refine lv_iload_n hx hb d_M_turn_48 rfl (lv_at hl 1 rfl) ?_
    refine lv_isub hx hb d_M_turn_49 ?_
    refine lv_topi (nm_r (e' := (nI ((pl - 1) - i))) (pk_sub (by omega)) ?_)
    refine lv_lload_n hx hb d_M_turn_50 rfl (lv_at hl 0 rfl) ?_
    refine tl_last (a := ((pl - 1) - i)) hx hb hE.1 hP (tl_DV hap) hS 6 0 rfl rfl (by omega) (by decide) d_M_turn_51 (fun H locs hP hS => ?_)
    have hP : va_P D tl_cl (tl_V cJ cI cZ bd E nf tf hn hs rt dn wm cr cd (vp_updL (vp_updL pf1 i (pf1 ((pl - 1) - i))) ((pl - 1) - i) (pf1 i)) pl O ol rw rl wh th) H := hP
    refine lv_iinc (k := 1) (v := (nI (i + 1))) (lv' := [(1, .int (nI (i + 1))), (2, .long (pf1 i)), (0, .ref (bd 0))]) hx hb d_M_turn_52 hl rfl (by rw [lit1]; exact (nI_succ _).symm) (by decide) rfl (fun ls hl => ?_)
    refine lv_goto (tgt := 2) hx hb d_M_turn_55 (by decide) ?_
    exact ih2 (n2 - 1) _ _ _ (by omega) ⟨i + 1, (vp_updL (vp_updL pf1 i (pf1 ((pl - 1) - i))) ((pl - 1) - i) (pf1 i)), lv_sub hl [0, 2] rfl, hP, hS, by omega, by omega, tl_tu_s (by omega) htu⟩
