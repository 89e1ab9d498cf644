set_option maxHeartbeats 4000000 in
set_option maxRecDepth 100000 in
theorem c_M_include (l : Launch) (D : va_G) (cJ cI cG cZ : ClassId) (bd : Nat → Nat) (E : Nat → Int64) (nf : Nat) (tf : Nat → Int64) (hn hs : Nat → Int32) (rt : Nat → Int64) (dn : Bool) (wm cr : Int32) (cd : Bool) (pf : Nat → Int64) (pl : Nat) (O : Nat → Int64) (ol : Nat) (rw : Nat → Int64) (rl : Nat) (wh : Nat → Int64) (th : Nat → Int32) (L : Nat) (sz : Nat → Nat) (Lp : List Int64) (T : Nat → Nat → Int64) (mI kI : Int32) (hap : tl_ap bd 11) (hI : tl_G nf hn hs L sz pf pl Lp ol T tf) : Met l y_M_include (k_M_include :: tl_ws) { frames := 3, cells := 0, slots := 0, locals := 76 } (tl_Pc D cJ cI cG cZ [.ref (bd 0), .int (mI), .int (kI)] (fun H => va_P D tl_cl (tl_V cJ cI cZ bd E nf tf hn hs rt dn wm cr cd pf pl O ol rw rl wh th) H)) (tl_Qi ((tl_include mI kI (E, nf, T, L, sz, rt, dn, wm, cr, Lp, ol, O)).1) (fun H => tl_Y D cJ cI cZ bd (tl_include mI kI (E, nf, T, L, sz, rt, dn, wm, cr, Lp, ol, O)).2 H) (tl_in bd 11)) 0 0 (tl_in bd 11) := by
  refine Met.ofW (cc := b_M_include) (maxL := 10) (ret := (some .int)) (by decide) rfl ?_
  intro p e s m args below meth c s₁ B hml hv
  obtain ⟨rfl, hE, hP⟩ := hv
  have hx := B.exec
  have hb := B.bytes
  have hr := B.returns
  have hw : ∀ w ∈ tl_ws, w.before ([.ref (bd 0), .int (mI), .int (kI)] : List Value).toArray s = true := fun w h => atoms_spec (ws := k_M_include :: tl_ws) B.pre w (List.mem_cons_of_mem _ h)
  have hown : s.vm.findClass R_M = some m.cls := findClass_of_methodNamed B.named
  have hlocks := B.notSynchronized
  have hl := lv_entry ([.ref (bd 0), .int (mI), .int (kI)]) (n := 10) (Nat.le_of_ble_eq_true rfl)
  rw [lg_entry_eq]
  generalize (lg_sl ([.ref (bd 0), .int (mI), .int (kI)]) ++ List.replicate (10 - (lg_sl ([.ref (bd 0), .int (mI), .int (kI)])).length) Slot.unset).toArray = ls at hl ⊢
  have hl : lv_has ls 10 [(0, .ref (bd 0)), (1, .int (mI)), (2, .int (kI))] := hl
  have hP : va_P D tl_cl (tl_V cJ cI cZ bd E nf tf hn hs rt dn wm cr cd pf pl O ol rw rl wh th) s.heap := hP
  have hS : va_S (tl_in bd 11) s.heap s.heap [] := va_S.rf
  have hI0 := hI
  obtain ⟨⟨hnf, hL, hh, hz, hsz, hpl, hpf, hp7, hol⟩, hsz0, htf⟩ := hI
  have hpub : tl_pub L sz ≤ 64 := Nat.le_trans (tl_pub_le hsz) hnf
  have hb0 := tl_num_le L 0
  have hb1 := tl_num_le L 1
  refine lv_aload_n hx hb d_M_include_0 rfl (lv_at hl 0 rfl) ?_
  refine va_get (ci := 2) (v := .int (tl_bi (dn))) (C := R_M) (T := F_M) (N := 18) hx hb hw iw_M hown hE.1 hP 0 rfl rfl 6 (by decide) (hw _ tl_m206) (fun _ h9 => h9) rfl d_M_include_1 ?_
  refine tl_beq (tgt := 10) hx hb d_M_include_4 (by decide) (fun h4 => ?_) (fun h4 => ?_)
  · -- 4 t
    refine lv_iload_n hx hb d_M_include_10 rfl (lv_at hl 2 rfl) ?_
    refine lv_iconst (v := (nI (1))) hx hb d_M_include_11 (by decide) ?_
    refine lv_icmp_lt (tgt := 32) hx hb d_M_include_12 (by decide) (fun h12 => ?_) (fun h12 => ?_)
    · -- 12 t
      refine lv_iconst (v := (-1)) hx hb d_M_include_32 (by decide) ?_
      have hsp : tl_include mI kI (E, nf, T, L, sz, rt, dn, wm, cr, Lp, ol, O) = (-1, (E, nf, T, L, sz, rt, dn, wm, cr, Lp, ol, O)) := by unfold tl_include; dsimp only; rw [if_neg (by rw [h4]; decide)]; first | (rw [if_pos h12]; done) | (rw [if_neg h12, if_pos h20]; done) | (rw [if_neg h12, if_neg h20, if_pos h24]; done) | (rw [if_neg h12, if_neg h20, if_neg h24, if_neg h29]; done)
      refine lv_topi (nm_r (e' := (tl_include mI kI (E, nf, T, L, sz, rt, dn, wm, cr, Lp, ol, O)).1) (by rw [hsp]; first | done | rw [ht1]) ?_)
      exact W.iret hx hb hr (fun t9 ht9 _ => tl_endI hS (by show tl_Y D cJ cI cZ bd (tl_include mI kI (E, nf, T, L, sz, rt, dn, wm, cr, Lp, ol, O)).2 _; rw [hsp]; exact ⟨tf, hn, hs, cd, pf, pl, rw, rl, wh, th, hI0, hP⟩) ht9) hS.2.2 d_M_include_33
    · -- 12 f
      refine lv_iload_n hx hb d_M_include_15 rfl (lv_at hl 2 rfl) ?_
      refine lv_aload_n hx hb d_M_include_16 rfl (lv_at hl 0 rfl) ?_
      refine tl_goI (v := (nI (tl_pub L sz))) (va_runV (As := []) (rest := [.int (kI)]) ⟨hx, hb, hml, hown, hw⟩ (c_M_published l D cJ cI cG cZ bd E nf tf hn hs rt dn wm cr cd pf pl O ol rw rl wh th L sz Lp T  hI0) (⟨tl_cB hw tl_m232 tl_m3 tl_m230 dd_M_published rfl rfl ⟨Nat.le_of_ble_eq_true rfl, Nat.le_of_ble_eq_true rfl⟩, hw _ tl_m231, hw _ tl_m370⟩) (tl_preV hE hP (va_recv (q0 := 0) (ci := 2) (q := (R_M, F_M, 18)) hE.1 hP rfl rfl)) rfl rfl hl.1 rfl (lv_room (Nat.le_of_ble_eq_true rfl)) d_M_include_17 ⟨Nat.zero_le _, Nat.zero_le _⟩) ?_
      refine lv_icmp_gt (tgt := 32) hx hb d_M_include_20 (by decide) (fun h20 => ?_) (fun h20 => ?_)
      · -- 20 t
        refine lv_iconst (v := (-1)) hx hb d_M_include_32 (by decide) ?_
        have hsp : tl_include mI kI (E, nf, T, L, sz, rt, dn, wm, cr, Lp, ol, O) = (-1, (E, nf, T, L, sz, rt, dn, wm, cr, Lp, ol, O)) := by unfold tl_include; dsimp only; rw [if_neg (by rw [h4]; decide)]; first | (rw [if_pos h12]; done) | (rw [if_neg h12, if_pos h20]; done) | (rw [if_neg h12, if_neg h20, if_pos h24]; done) | (rw [if_neg h12, if_neg h20, if_neg h24, if_neg h29]; done)
        refine lv_topi (nm_r (e' := (tl_include mI kI (E, nf, T, L, sz, rt, dn, wm, cr, Lp, ol, O)).1) (by rw [hsp]; first | done | rw [ht1]) ?_)
        exact W.iret hx hb hr (fun t9 ht9 _ => tl_endI hS (by show tl_Y D cJ cI cZ bd (tl_include mI kI (E, nf, T, L, sz, rt, dn, wm, cr, Lp, ol, O)).2 _; rw [hsp]; exact ⟨tf, hn, hs, cd, pf, pl, rw, rl, wh, th, hI0, hP⟩) ht9) hS.2.2 d_M_include_33
      · -- 20 f
        refine lv_iload_n hx hb d_M_include_23 rfl (lv_at hl 1 rfl) ?_
        refine lv_if_lt (tgt := 32) hx hb d_M_include_24 (by decide) (fun h24 => ?_) (fun h24 => ?_)
        · -- 24 t
          refine lv_iconst (v := (-1)) hx hb d_M_include_32 (by decide) ?_
          have hsp : tl_include mI kI (E, nf, T, L, sz, rt, dn, wm, cr, Lp, ol, O) = (-1, (E, nf, T, L, sz, rt, dn, wm, cr, Lp, ol, O)) := by unfold tl_include; dsimp only; rw [if_neg (by rw [h4]; decide)]; first | (rw [if_pos h12]; done) | (rw [if_neg h12, if_pos h20]; done) | (rw [if_neg h12, if_neg h20, if_pos h24]; done) | (rw [if_neg h12, if_neg h20, if_neg h24, if_neg h29]; done)
          refine lv_topi (nm_r (e' := (tl_include mI kI (E, nf, T, L, sz, rt, dn, wm, cr, Lp, ol, O)).1) (by rw [hsp]; first | done | rw [ht1]) ?_)
          exact W.iret hx hb hr (fun t9 ht9 _ => tl_endI hS (by show tl_Y D cJ cI cZ bd (tl_include mI kI (E, nf, T, L, sz, rt, dn, wm, cr, Lp, ol, O)).2 _; rw [hsp]; exact ⟨tf, hn, hs, cd, pf, pl, rw, rl, wh, th, hI0, hP⟩) ht9) hS.2.2 d_M_include_33
        · -- 24 f
          refine lv_iload_n hx hb d_M_include_27 rfl (lv_at hl 1 rfl) ?_
          refine lv_iload_n hx hb d_M_include_28 rfl (lv_at hl 2 rfl) ?_
          refine lv_icmp_lt (tgt := 34) hx hb d_M_include_29 (by decide) (fun h29 => ?_) (fun h29 => ?_)
          · -- 29 t
            obtain ⟨kk, hk1, hk2, rfl⟩ := tl_ge1 h12
            obtain ⟨mm, hm2, rfl⟩ := nI_of h24
            have g20 : kk ≤ tl_pub L sz := Nat.le_of_not_lt (fun q => h20 ((nI_ltI (by omega) hk2).mpr q))
            have g29 : mm < kk := (nI_ltI hm2 hk2).mp h29
            have hlen := tl_path_len E 6 (by omega) mm 0 kk (by omega) (by omega)
            refine lv_aload_n hx hb d_M_include_34 rfl (lv_at hl 0 rfl) ?_
            refine lv_iconst (v := (nI (0))) hx hb d_M_include_35 (by decide) ?_
            refine va_put (ci := 2) (v := .int (nI (0))) (ty := .int) (C := R_M) (T := F_M) (N := 18) hx hb hw iw_M ft_M ft_M_ok n_M hown hE.1 hP (tl_DV hap) hS 0 rfl rfl 10 (by decide) (hw _ tl_m210) (fun _ h9 => h9) rfl (by decide +kernel) rfl rfl (Nat.le_of_ble_eq_true rfl) d_M_include_36 (fun H locs hP _ hS => ?_)
            have hP : va_P D tl_cl (tl_V cJ cI cZ bd E nf tf hn hs rt dn wm cr cd pf 0 O ol rw rl wh th) H := hP
            refine lv_iconst (v := (nI (0))) hx hb d_M_include_39 (by decide) ?_
            refine lv_istore_n (lv' := [(3, .int (nI (0))), (0, .ref (bd 0)), (1, .int (nI (mm))), (2, .int (nI (kk)))]) hx hb d_M_include_40 rfl hl (by decide) rfl (fun ls hl => ?_)
            refine lv_iload_n hx hb d_M_include_41 rfl (lv_at hl 3 rfl) ?_
            refine lv_istore (lv' := [(4, .int (nI (kk))), (3, .int (nI (0))), (0, .ref (bd 0)), (1, .int (nI (mm))), (2, .int (nI (kk)))]) hx hb d_M_include_42 hl (by decide) rfl (fun ls hl => ?_)
            refine lv_iload_n hx hb d_M_include_44 rfl (lv_at hl 3 rfl) ?_
            refine lv_istore (lv' := [(5, .int (nI (mm))), (4, .int (nI (kk))), (3, .int (nI (0))), (0, .ref (bd 0)), (1, .int (nI (mm))), (2, .int (nI (kk)))]) hx hb d_M_include_45 hl (by decide) rfl (fun ls hl => ?_)
            refine tl_loopW (fun n47 ls H locs => ∃ (fr : Nat) (s9 : Nat) (pq : Nat) (xs : List Int64) (pl1 : Nat) (pf1 : Nat → Int64) (wh1 : Nat → Int64) (th1 : Nat → Int32), lv_has ls 10 [(3, .int (nI (fr))), (4, .int (nI (s9))), (5, .int (nI (pq))), (0, .ref (bd 0))] ∧ va_P D tl_cl (tl_V cJ cI cZ bd E nf tf hn hs rt dn wm cr cd pf1 pl1 O ol rw rl wh1 th1) H ∧ va_S (tl_in bd 11) s.heap H locs ∧ (fr + s9 ≤ 64) ∧ (1 ≤ s9) ∧ (pq < s9) ∧ (n47 = s9) ∧ (pl1 = xs.length) ∧ (∀ i, i < pl1 → pf1 i = xs.getD i 0) ∧ (xs ++ (tl_path E pq fr s9).reverse = (tl_path E mm 0 kk).reverse)) (fun n47 ls H locs hI ih47 => ?_) kk _ _ _ ⟨0, kk, mm, [], 0, pf, wh, th, lv_sub hl [2, 1, 0, 3] rfl, hP, hS, by omega, by omega, by omega, rfl, rfl, fun i hi => absurd hi (Nat.not_lt_zero _), rfl⟩
            obtain ⟨fr, s9, pq, xs, pl1, pf1, wh1, th1, hl, hP, hS, hfs, hs1, hps, hm, hpl1, hpf1, hx9⟩ := hI
            refine lv_iload hx hb d_M_include_47 (lv_at hl 1 rfl) ?_
            refine lv_iconst (v := (nI (1))) hx hb d_M_include_49 (by decide) ?_
            refine tl_cle (tgt := 161) (by omega) (by omega) hx hb d_M_include_50 (by decide) (fun h50 => ?_) (fun h50 => ?_)
            · -- 50 t
              rw [tl_path_0 E pq fr s9 (by omega)] at hx9
              have hx8 := tl_rev_e hx9
              have hpl6 : pl1 ≤ 16 := by rw [hpl1, hx8, List.length_reverse]; omega
              refine lv_aload_n hx hb d_M_include_161 rfl (lv_at hl 3 rfl) ?_
              refine tl_doV (va_runV (As := []) (rest := []) ⟨hx, hb, hml, hown, hw⟩ (c_M_turn l D cJ cI cG cZ bd E nf tf hn hs rt dn wm cr cd pf1 pl1 O ol rw rl wh1 th1 hap (by omega)) (⟨tl_cB hw tl_m320 tl_m3 tl_m318 dd_M_turn rfl rfl ⟨Nat.le_of_ble_eq_true rfl, Nat.le_of_ble_eq_true rfl⟩, hw _ tl_m319, hw _ tl_m378⟩) (tl_preV hE hP (va_recv (q0 := 0) (ci := 2) (q := (R_M, F_M, 18)) hE.1 hP rfl rfl)) rfl rfl hl.1 rfl (lv_room (Nat.le_of_ble_eq_true rfl)) d_M_include_162 ⟨Nat.zero_le _, Nat.zero_le _⟩) hS (fun _ h => h) (fun H locs hX hS _ => ?_)
              obtain ⟨pf9, hpf9, hP⟩ := hX
              have hP : va_P D tl_cl (tl_V cJ cI cZ bd E nf tf hn hs rt dn wm cr cd pf9 pl1 O ol rw rl wh1 th1) H := hP
              refine lv_aload_n hx hb d_M_include_165 rfl (lv_at hl 3 rfl) ?_
              refine va_get (ci := 2) (v := .int (nI (pl1))) (C := R_M) (T := F_M) (N := 18) hx hb hw iw_M hown hE.1 hP 0 rfl rfl 10 (by decide) (hw _ tl_m210) (fun _ h9 => h9) rfl d_M_include_166 ?_
              obtain ⟨ht1, ht2⟩ := tl_turned hpl1 hpf1 hx8 hpf9
              have hsp : tl_include (nI (mm)) (nI (kk)) (E, nf, T, L, sz, rt, dn, wm, cr, Lp, ol, O) = (nI (tl_path E mm 0 kk).length, (E, nf, T, L, sz, rt, dn, wm, cr, tl_path E mm 0 kk, ol, O)) := by unfold tl_include; dsimp only; rw [if_neg (by rw [h4]; decide), if_neg h12, if_neg h20, if_neg h24, if_pos h29, nI_clamp hm2, nI_clamp hk2]
              refine lv_topi (nm_r (e' := (tl_include (nI (mm)) (nI (kk)) (E, nf, T, L, sz, rt, dn, wm, cr, Lp, ol, O)).1) (by rw [hsp]; first | done | rw [ht1]) ?_)
              exact W.iret hx hb hr (fun t9 ht9 _ => tl_endI hS (by show tl_Y D cJ cI cZ bd (tl_include (nI (mm)) (nI (kk)) (E, nf, T, L, sz, rt, dn, wm, cr, Lp, ol, O)).2 _; rw [hsp]; exact ⟨tf, hn, hs, cd, pf9, pl1, rw, rl, wh1, th1, ⟨⟨hnf, hL, hh, hz, hsz, ht1, ht2, by omega, hol⟩, hsz0, htf⟩, hP⟩) ht9) hS.2.2 d_M_include_169
            · -- 50 f
              have hk := tl_half_ok s9 (by omega) (by omega)
              have hxl := tl_rev_l hx9
              have hpl6 : pl1 < 16 := by omega
              refine lv_iload hx hb d_M_include_53 (lv_at hl 1 rfl) ?_
              refine tl_goI (v := (nI (tl_half s9))) (va_runS (As := [.int (nI (s9))]) (rest := []) ⟨hx, hb, hml, hown, hw⟩ (c_M_half l s9 (by omega)) (⟨tl_cB hw tl_m314 tl_m3 tl_m312 dd_M_half rfl rfl ⟨Nat.le_of_ble_eq_true rfl, Nat.le_of_ble_eq_true rfl⟩, hw _ tl_m313⟩) (tl_pre0) rfl rfl hl.1 rfl (lv_room (Nat.le_of_ble_eq_true rfl)) d_M_include_55 ⟨Nat.zero_le _, Nat.zero_le _⟩) ?_
              refine lv_istore (lv' := [(6, .int (nI (tl_half s9))), (3, .int (nI (fr))), (4, .int (nI (s9))), (5, .int (nI (pq))), (0, .ref (bd 0))]) hx hb d_M_include_58 hl (by decide) rfl (fun ls hl => ?_)
              refine lv_iload hx hb d_M_include_60 (lv_at hl 3 rfl) ?_
              refine lv_iload hx hb d_M_include_62 (lv_at hl 0 rfl) ?_
              refine tl_cge (tgt := 71) (by omega) (by omega) hx hb d_M_include_64 (by decide) (fun h64 => ?_) (fun h64 => ?_)
              · -- 64 t
                refine lv_iconst (v := (nI (0))) hx hb d_M_include_71 (by decide) ?_
                refine lv_istore (lv' := [(7, .int (nI (0))), (6, .int (nI (tl_half s9))), (3, .int (nI (fr))), (4, .int (nI (s9))), (5, .int (nI (pq))), (0, .ref (bd 0))]) hx hb d_M_include_72 hl (by decide) rfl (fun ls hl => ?_)
                refine lv_iload hx hb d_M_include_74 (lv_at hl 0 rfl) ?_
                refine tl_zeq (a := 0) (tgt := 95) (by omega) hx hb d_M_include_76 (by decide) (fun _ => ?_) (fun h => absurd h (by decide))
                refine lv_aload_n hx hb d_M_include_95 rfl (lv_at hl 5 rfl) ?_
                refine lv_iload_n hx hb d_M_include_96 rfl (lv_at hl 2 rfl) ?_
                refine lv_iload hx hb d_M_include_97 (lv_at hl 1 rfl) ?_
                refine tl_doL (v := (tl_root E fr (tl_half s9))) (va_runV (As := [.int (nI (fr)), .int (nI (tl_half s9))]) (rest := []) ⟨hx, hb, hml, hown, hw⟩ (c_M_rootAt l D cJ cI cG cZ bd E nf tf hn hs rt dn wm cr cd pf1 pl1 O ol rw rl wh1 th1 fr (tl_half s9) hap (by omega)) (⟨tl_cB hw tl_m253 tl_m3 tl_m251 dd_M_rootAt rfl rfl ⟨Nat.le_of_ble_eq_true rfl, Nat.le_of_ble_eq_true rfl⟩, hw _ tl_m252, hw _ tl_m374⟩) (tl_preV hE hP (va_recv (q0 := 0) (ci := 2) (q := (R_M, F_M, 18)) hE.1 hP rfl rfl)) rfl rfl hl.1 rfl (lv_room (Nat.le_of_ble_eq_true rfl)) d_M_include_99 ⟨Nat.zero_le _, Nat.zero_le _⟩) hS (fun _ h => h) (fun H locs hX hS _ => ?_)
                obtain ⟨wz1, tz2, hP⟩ := hX
                have hP : va_P D tl_cl (tl_V cJ cI cZ bd E nf tf hn hs rt dn wm cr cd pf1 pl1 O ol rw rl wz1 tz2) H := hP
                refine lv_lstore (lv' := [(8, .long (tl_root E fr (tl_half s9))), (7, .int (nI (0))), (6, .int (nI (tl_half s9))), (3, .int (nI (fr))), (4, .int (nI (s9))), (5, .int (nI (pq))), (0, .ref (bd 0))]) hx hb d_M_include_102 hl (by decide) rfl (fun ls hl => ?_)
                refine lv_aload_n hx hb d_M_include_104 rfl (lv_at hl 6 rfl) ?_
                refine lv_lload hx hb d_M_include_105 (lv_at hl 0 rfl) ?_
                refine tl_doV (va_runV (As := [.long (tl_root E fr (tl_half s9))]) (rest := []) ⟨hx, hb, hml, hown, hw⟩ (c_M_say l D cJ cI cG cZ bd E nf tf hn hs rt dn wm cr cd pf1 pl1 O ol rw rl wz1 tz2 (tl_root E fr (tl_half s9)) hap (by omega)) (⟨tl_cB hw tl_m317 tl_m3 tl_m315 dd_M_say rfl rfl ⟨Nat.le_of_ble_eq_true rfl, Nat.le_of_ble_eq_true rfl⟩, hw _ tl_m316, hw _ tl_m377⟩) (tl_preV hE hP (va_recv (q0 := 0) (ci := 2) (q := (R_M, F_M, 18)) hE.1 hP rfl rfl)) rfl rfl hl.1 rfl (lv_room (Nat.le_of_ble_eq_true rfl)) d_M_include_107 ⟨Nat.zero_le _, Nat.zero_le _⟩) hS (fun _ h => h) (fun H locs hP hS _ => ?_)
                have hP : va_P D tl_cl (tl_V cJ cI cZ bd E nf tf hn hs rt dn wm cr cd (vp_updL pf1 pl1 (tl_root E fr (tl_half s9))) (pl1 + 1) O ol rw rl wz1 tz2) H := hP
                refine lv_iload hx hb d_M_include_110 (lv_at hl 1 rfl) ?_
                refine tl_zeq (a := 0) (tgt := 119) (by omega) hx hb d_M_include_112 (by decide) (fun _ => ?_) (fun h => absurd h (by decide))
                refine lv_iload_n hx hb d_M_include_119 rfl (lv_at hl 3 rfl) ?_
                refine lv_iload hx hb d_M_include_120 (lv_at hl 2 rfl) ?_
                refine lv_iadd hx hb d_M_include_122 ?_
                refine lv_topi (nm_r (e' := (nI (fr + (tl_half s9)))) (nI_add _ _) ?_)
                refine lv_istore_n (lv' := [(3, .int (nI (fr + (tl_half s9)))), (8, .long (tl_root E fr (tl_half s9))), (7, .int (nI (0))), (6, .int (nI (tl_half s9))), (4, .int (nI (s9))), (5, .int (nI (pq))), (0, .ref (bd 0))]) hx hb d_M_include_123 rfl hl (by decide) rfl (fun ls hl => ?_)
                refine lv_iload hx hb d_M_include_124 (lv_at hl 2 rfl) ?_
                refine tl_zeq (a := 0) (tgt := 134) (by omega) hx hb d_M_include_126 (by decide) (fun _ => ?_) (fun h => absurd h (by decide))
                refine lv_iload hx hb d_M_include_134 (lv_at hl 5 rfl) ?_
                refine lv_iload hx hb d_M_include_136 (lv_at hl 3 rfl) ?_
                refine lv_isub hx hb d_M_include_138 ?_
                refine lv_topi (nm_r (e' := (nI (pq - (tl_half s9)))) (pk_sub (by omega)) ?_)
                refine lv_istore (lv' := [(5, .int (nI (pq - (tl_half s9)))), (3, .int (nI (fr + (tl_half s9)))), (8, .long (tl_root E fr (tl_half s9))), (7, .int (nI (0))), (6, .int (nI (tl_half s9))), (4, .int (nI (s9))), (0, .ref (bd 0))]) hx hb d_M_include_139 hl (by decide) rfl (fun ls hl => ?_)
                refine lv_iload hx hb d_M_include_141 (lv_at hl 3 rfl) ?_
                refine tl_zeq (a := 0) (tgt := 151) (by omega) hx hb d_M_include_143 (by decide) (fun _ => ?_) (fun h => absurd h (by decide))
                refine lv_iload hx hb d_M_include_151 (lv_at hl 5 rfl) ?_
                refine lv_iload hx hb d_M_include_153 (lv_at hl 4 rfl) ?_
                refine lv_isub hx hb d_M_include_155 ?_
                refine lv_topi (nm_r (e' := (nI (s9 - (tl_half s9)))) (pk_sub (by omega)) ?_)
                refine lv_istore (lv' := [(4, .int (nI (s9 - (tl_half s9)))), (5, .int (nI (pq - (tl_half s9)))), (3, .int (nI (fr + (tl_half s9)))), (8, .long (tl_root E fr (tl_half s9))), (7, .int (nI (0))), (6, .int (nI (tl_half s9))), (0, .ref (bd 0))]) hx hb d_M_include_156 hl (by decide) rfl (fun ls hl => ?_)
                refine lv_goto (tgt := 47) hx hb d_M_include_158 (by decide) ?_
                exact ih47 (s9 - tl_half s9) _ _ _ (by omega) ⟨fr + tl_half s9, s9 - tl_half s9, pq - tl_half s9, xs ++ [tl_root E fr (tl_half s9)], pl1 + 1, (vp_updL pf1 pl1 (tl_root E fr (tl_half s9))), wz1, tz2, lv_sub hl [2, 0, 1, 6] rfl, hP, hS, by omega, by omega, by omega, rfl, tl_snoc_l hpl1, tl_snoc hpl1 hpf1, (by rw [tl_path_un E pq fr s9 (by omega) (by omega), if_neg (by omega)] at hx9; exact tl_rev_s hx9)⟩
              · -- 64 f
                refine lv_iconst (v := (nI (1))) hx hb d_M_include_67 (by decide) ?_
                refine lv_goto (tgt := 72) hx hb d_M_include_68 (by decide) ?_
                refine lv_istore (lv' := [(7, .int (nI (1))), (6, .int (nI (tl_half s9))), (3, .int (nI (fr))), (4, .int (nI (s9))), (5, .int (nI (pq))), (0, .ref (bd 0))]) hx hb d_M_include_72 hl (by decide) rfl (fun ls hl => ?_)
                refine lv_iload hx hb d_M_include_74 (lv_at hl 0 rfl) ?_
                refine tl_zeq (a := 1) (tgt := 95) (by omega) hx hb d_M_include_76 (by decide) (fun h => absurd h (by decide)) (fun _ => ?_)
                refine lv_aload_n hx hb d_M_include_79 rfl (lv_at hl 5 rfl) ?_
                refine lv_iload_n hx hb d_M_include_80 rfl (lv_at hl 2 rfl) ?_
                refine lv_iload hx hb d_M_include_81 (lv_at hl 1 rfl) ?_
                refine lv_iadd hx hb d_M_include_83 ?_
                refine lv_topi (nm_r (e' := (nI (fr + (tl_half s9)))) (nI_add _ _) ?_)
                refine lv_iload hx hb d_M_include_84 (lv_at hl 3 rfl) ?_
                refine lv_iload hx hb d_M_include_86 (lv_at hl 1 rfl) ?_
                refine lv_isub hx hb d_M_include_88 ?_
                refine lv_topi (nm_r (e' := (nI (s9 - (tl_half s9)))) (pk_sub (by omega)) ?_)
                refine tl_doL (v := (tl_root E (fr + (tl_half s9)) (s9 - (tl_half s9)))) (va_runV (As := [.int (nI (fr + (tl_half s9))), .int (nI (s9 - (tl_half s9)))]) (rest := []) ⟨hx, hb, hml, hown, hw⟩ (c_M_rootAt l D cJ cI cG cZ bd E nf tf hn hs rt dn wm cr cd pf1 pl1 O ol rw rl wh1 th1 (fr + (tl_half s9)) (s9 - (tl_half s9)) hap (by omega)) (⟨tl_cB hw tl_m253 tl_m3 tl_m251 dd_M_rootAt rfl rfl ⟨Nat.le_of_ble_eq_true rfl, Nat.le_of_ble_eq_true rfl⟩, hw _ tl_m252, hw _ tl_m374⟩) (tl_preV hE hP (va_recv (q0 := 0) (ci := 2) (q := (R_M, F_M, 18)) hE.1 hP rfl rfl)) rfl rfl hl.1 rfl (lv_room (Nat.le_of_ble_eq_true rfl)) d_M_include_89 ⟨Nat.zero_le _, Nat.zero_le _⟩) hS (fun _ h => h) (fun H locs hX hS _ => ?_)
                obtain ⟨wz3, tz4, hP⟩ := hX
                have hP : va_P D tl_cl (tl_V cJ cI cZ bd E nf tf hn hs rt dn wm cr cd pf1 pl1 O ol rw rl wz3 tz4) H := hP
                refine lv_goto (tgt := 102) hx hb d_M_include_92 (by decide) ?_
                refine lv_lstore (lv' := [(8, .long (tl_root E (fr + (tl_half s9)) (s9 - (tl_half s9)))), (7, .int (nI (1))), (6, .int (nI (tl_half s9))), (3, .int (nI (fr))), (4, .int (nI (s9))), (5, .int (nI (pq))), (0, .ref (bd 0))]) hx hb d_M_include_102 hl (by decide) rfl (fun ls hl => ?_)
                refine lv_aload_n hx hb d_M_include_104 rfl (lv_at hl 6 rfl) ?_
                refine lv_lload hx hb d_M_include_105 (lv_at hl 0 rfl) ?_
                refine tl_doV (va_runV (As := [.long (tl_root E (fr + (tl_half s9)) (s9 - (tl_half s9)))]) (rest := []) ⟨hx, hb, hml, hown, hw⟩ (c_M_say l D cJ cI cG cZ bd E nf tf hn hs rt dn wm cr cd pf1 pl1 O ol rw rl wz3 tz4 (tl_root E (fr + (tl_half s9)) (s9 - (tl_half s9))) hap (by omega)) (⟨tl_cB hw tl_m317 tl_m3 tl_m315 dd_M_say rfl rfl ⟨Nat.le_of_ble_eq_true rfl, Nat.le_of_ble_eq_true rfl⟩, hw _ tl_m316, hw _ tl_m377⟩) (tl_preV hE hP (va_recv (q0 := 0) (ci := 2) (q := (R_M, F_M, 18)) hE.1 hP rfl rfl)) rfl rfl hl.1 rfl (lv_room (Nat.le_of_ble_eq_true rfl)) d_M_include_107 ⟨Nat.zero_le _, Nat.zero_le _⟩) hS (fun _ h => h) (fun H locs hP hS _ => ?_)
                have hP : va_P D tl_cl (tl_V cJ cI cZ bd E nf tf hn hs rt dn wm cr cd (vp_updL pf1 pl1 (tl_root E (fr + (tl_half s9)) (s9 - (tl_half s9)))) (pl1 + 1) O ol rw rl wz3 tz4) H := hP
                refine lv_iload hx hb d_M_include_110 (lv_at hl 1 rfl) ?_
                refine tl_zeq (a := 1) (tgt := 119) (by omega) hx hb d_M_include_112 (by decide) (fun h => absurd h (by decide)) (fun _ => ?_)
                refine lv_iload_n hx hb d_M_include_115 rfl (lv_at hl 3 rfl) ?_
                refine lv_goto (tgt := 123) hx hb d_M_include_116 (by decide) ?_
                refine lv_istore_n (lv' := [(3, .int (nI (fr))), (8, .long (tl_root E (fr + (tl_half s9)) (s9 - (tl_half s9)))), (7, .int (nI (1))), (6, .int (nI (tl_half s9))), (4, .int (nI (s9))), (5, .int (nI (pq))), (0, .ref (bd 0))]) hx hb d_M_include_123 rfl hl (by decide) rfl (fun ls hl => ?_)
                refine lv_iload hx hb d_M_include_124 (lv_at hl 2 rfl) ?_
                refine tl_zeq (a := 1) (tgt := 134) (by omega) hx hb d_M_include_126 (by decide) (fun h => absurd h (by decide)) (fun _ => ?_)
                refine lv_iload hx hb d_M_include_129 (lv_at hl 5 rfl) ?_
                refine lv_goto (tgt := 139) hx hb d_M_include_131 (by decide) ?_
                refine lv_istore (lv' := [(5, .int (nI (pq))), (3, .int (nI (fr))), (8, .long (tl_root E (fr + (tl_half s9)) (s9 - (tl_half s9)))), (7, .int (nI (1))), (6, .int (nI (tl_half s9))), (4, .int (nI (s9))), (0, .ref (bd 0))]) hx hb d_M_include_139 hl (by decide) rfl (fun ls hl => ?_)
                refine lv_iload hx hb d_M_include_141 (lv_at hl 3 rfl) ?_
                refine tl_zeq (a := 1) (tgt := 151) (by omega) hx hb d_M_include_143 (by decide) (fun h => absurd h (by decide)) (fun _ => ?_)
                refine lv_iload hx hb d_M_include_146 (lv_at hl 4 rfl) ?_
                refine lv_goto (tgt := 156) hx hb d_M_include_148 (by decide) ?_
                refine lv_istore (lv' := [(4, .int (nI (tl_half s9))), (5, .int (nI (pq))), (3, .int (nI (fr))), (8, .long (tl_root E (fr + (tl_half s9)) (s9 - (tl_half s9)))), (7, .int (nI (1))), (6, .int (nI (tl_half s9))), (0, .ref (bd 0))]) hx hb d_M_include_156 hl (by decide) rfl (fun ls hl => ?_)
                refine lv_goto (tgt := 47) hx hb d_M_include_158 (by decide) ?_
                exact ih47 (tl_half s9) _ _ _ (by omega) ⟨fr, tl_half s9, pq, xs ++ [tl_root E (fr + tl_half s9) (s9 - tl_half s9)], pl1 + 1, (vp_updL pf1 pl1 (tl_root E (fr + (tl_half s9)) (s9 - (tl_half s9)))), wz3, tz4, lv_sub hl [2, 0, 1, 6] rfl, hP, hS, by omega, by omega, by omega, rfl, tl_snoc_l hpl1, tl_snoc hpl1 hpf1, (by rw [tl_path_un E pq fr s9 (by omega) (by omega), if_pos h64] at hx9; exact tl_rev_s hx9)⟩
          · -- 29 f
            refine lv_iconst (v := (-1)) hx hb d_M_include_32 (by decide) ?_
            have hsp : tl_include mI kI (E, nf, T, L, sz, rt, dn, wm, cr, Lp, ol, O) = (-1, (E, nf, T, L, sz, rt, dn, wm, cr, Lp, ol, O)) := by unfold tl_include; dsimp only; rw [if_neg (by rw [h4]; decide)]; first | (rw [if_pos h12]; done) | (rw [if_neg h12, if_pos h20]; done) | (rw [if_neg h12, if_neg h20, if_pos h24]; done) | (rw [if_neg h12, if_neg h20, if_neg h24, if_neg h29]; done)
            refine lv_topi (nm_r (e' := (tl_include mI kI (E, nf, T, L, sz, rt, dn, wm, cr, Lp, ol, O)).1) (by rw [hsp]; first | done | rw [ht1]) ?_)
            exact W.iret hx hb hr (fun t9 ht9 _ => tl_endI hS (by show tl_Y D cJ cI cZ bd (tl_include mI kI (E, nf, T, L, sz, rt, dn, wm, cr, Lp, ol, O)).2 _; rw [hsp]; exact ⟨tf, hn, hs, cd, pf, pl, rw, rl, wh, th, hI0, hP⟩) ht9) hS.2.2 d_M_include_33
  · -- 4 f
    refine lv_bipush (v := (-2)) hx hb d_M_include_7 (by decide) ?_
    have hsp : tl_include mI kI (E, nf, T, L, sz, rt, dn, wm, cr, Lp, ol, O) = (-2, (E, nf, T, L, sz, rt, dn, wm, cr, Lp, ol, O)) := by unfold tl_include; dsimp only; rw [h4]; rfl
    refine lv_topi (nm_r (e' := (tl_include mI kI (E, nf, T, L, sz, rt, dn, wm, cr, Lp, ol, O)).1) (by rw [hsp]; first | done | rw [ht1]) ?_)
    exact W.iret hx hb hr (fun t9 ht9 _ => tl_endI hS (by show tl_Y D cJ cI cZ bd (tl_include mI kI (E, nf, T, L, sz, rt, dn, wm, cr, Lp, ol, O)).2 _; rw [hsp]; exact ⟨tf, hn, hs, cd, pf, pl, rw, rl, wh, th, hI0, hP⟩) ht9) hS.2.2 d_M_include_9

set_option maxHeartbeats 4000000 in
set_option maxRecDepth 100000 in
theorem c_M_extend (l : Launch) (D : va_G) (cJ cI cG cZ : ClassId) (bd : Nat → Nat) (E : Nat → Int64) (nf : Nat) (tf : Nat → Int64) (hn hs : Nat → Int32) (rt : Nat → Int64) (dn : Bool) (wm cr : Int32) (cd : Bool) (pf : Nat → Int64) (pl : Nat) (O : Nat → Int64) (ol : Nat) (rw : Nat → Int64) (rl : Nat) (wh : Nat → Int64) (th : Nat → Int32) (L : Nat) (sz : Nat → Nat) (Lp : List Int64) (T : Nat → Nat → Int64) (mI kI : Int32) (hap : tl_ap bd 11) (hI : tl_G nf hn hs L sz pf pl Lp ol T tf) : Met l y_M_extend (k_M_extend :: tl_ws) { frames := 3, cells := 0, slots := 0, locals := 76 } (tl_Pc D cJ cI cG cZ [.ref (bd 0), .int (mI), .int (kI)] (fun H => va_P D tl_cl (tl_V cJ cI cZ bd E nf tf hn hs rt dn wm cr cd pf pl O ol rw rl wh th) H)) (tl_Qi ((tl_extend mI kI (E, nf, T, L, sz, rt, dn, wm, cr, Lp, ol, O)).1) (fun H => tl_Y D cJ cI cZ bd (tl_extend mI kI (E, nf, T, L, sz, rt, dn, wm, cr, Lp, ol, O)).2 H) (tl_in bd 11)) 0 0 (tl_in bd 11) := by
  refine Met.ofW (cc := b_M_extend) (maxL := 11) (ret := (some .int)) (by decide) rfl ?_
  intro p e s m args below meth c s₁ B hml hv
  obtain ⟨rfl, hE, hP⟩ := hv
  have hx := B.exec
  have hb := B.bytes
  have hr := B.returns
  have hw : ∀ w ∈ tl_ws, w.before ([.ref (bd 0), .int (mI), .int (kI)] : List Value).toArray s = true := fun w h => atoms_spec (ws := k_M_extend :: tl_ws) B.pre w (List.mem_cons_of_mem _ h)
  have hown : s.vm.findClass R_M = some m.cls := findClass_of_methodNamed B.named
  have hlocks := B.notSynchronized
  have hl := lv_entry ([.ref (bd 0), .int (mI), .int (kI)]) (n := 11) (Nat.le_of_ble_eq_true rfl)
  rw [lg_entry_eq]
  generalize (lg_sl ([.ref (bd 0), .int (mI), .int (kI)]) ++ List.replicate (11 - (lg_sl ([.ref (bd 0), .int (mI), .int (kI)])).length) Slot.unset).toArray = ls at hl ⊢
  have hl : lv_has ls 11 [(0, .ref (bd 0)), (1, .int (mI)), (2, .int (kI))] := hl
  have hP : va_P D tl_cl (tl_V cJ cI cZ bd E nf tf hn hs rt dn wm cr cd pf pl O ol rw rl wh th) s.heap := hP
  have hS : va_S (tl_in bd 11) s.heap s.heap [] := va_S.rf
  have hI0 := hI
  obtain ⟨⟨hnf, hL, hh, hz, hsz, hpl, hpf, hp7, hol⟩, hsz0, htf⟩ := hI
  have hpub : tl_pub L sz ≤ 64 := Nat.le_trans (tl_pub_le hsz) hnf
  have hb0 := tl_num_le L 0
  have hb1 := tl_num_le L 1
  refine lv_aload_n hx hb d_M_extend_0 rfl (lv_at hl 0 rfl) ?_
  refine va_get (ci := 2) (v := .int (tl_bi (dn))) (C := R_M) (T := F_M) (N := 18) hx hb hw iw_M hown hE.1 hP 0 rfl rfl 6 (by decide) (hw _ tl_m206) (fun _ h9 => h9) rfl d_M_extend_1 ?_
  refine tl_beq (tgt := 10) hx hb d_M_extend_4 (by decide) (fun h4 => ?_) (fun h4 => ?_)
  · -- 4 t
    refine lv_iload_n hx hb d_M_extend_10 rfl (lv_at hl 2 rfl) ?_
    refine lv_iconst (v := (nI (1))) hx hb d_M_extend_11 (by decide) ?_
    refine lv_icmp_lt (tgt := 33) hx hb d_M_extend_12 (by decide) (fun h12 => ?_) (fun h12 => ?_)
    · -- 12 t
      refine lv_iconst (v := (-1)) hx hb d_M_extend_33 (by decide) ?_
      have hsp : tl_extend mI kI (E, nf, T, L, sz, rt, dn, wm, cr, Lp, ol, O) = (-1, (E, nf, T, L, sz, rt, dn, wm, cr, Lp, ol, O)) := by unfold tl_extend; dsimp only; rw [if_neg (by rw [h4]; decide)]; first | (rw [if_pos h12]; done) | (rw [if_neg h12, if_pos h20]; done) | (rw [if_neg h12, if_neg h20, if_pos h25]; done) | (rw [if_neg h12, if_neg h20, if_neg h25, if_neg h30]; done)
      refine lv_topi (nm_r (e' := (tl_extend mI kI (E, nf, T, L, sz, rt, dn, wm, cr, Lp, ol, O)).1) (by rw [hsp]; first | done | rw [ht1]) ?_)
      exact W.iret hx hb hr (fun t9 ht9 _ => tl_endI hS (by show tl_Y D cJ cI cZ bd (tl_extend mI kI (E, nf, T, L, sz, rt, dn, wm, cr, Lp, ol, O)).2 _; rw [hsp]; exact ⟨tf, hn, hs, cd, pf, pl, rw, rl, wh, th, hI0, hP⟩) ht9) hS.2.2 d_M_extend_34
    · -- 12 f
      refine lv_iload_n hx hb d_M_extend_15 rfl (lv_at hl 2 rfl) ?_
      refine lv_aload_n hx hb d_M_extend_16 rfl (lv_at hl 0 rfl) ?_
      refine tl_goI (v := (nI (tl_pub L sz))) (va_runV (As := []) (rest := [.int (kI)]) ⟨hx, hb, hml, hown, hw⟩ (c_M_published l D cJ cI cG cZ bd E nf tf hn hs rt dn wm cr cd pf pl O ol rw rl wh th L sz Lp T  hI0) (⟨tl_cB hw tl_m232 tl_m3 tl_m230 dd_M_published rfl rfl ⟨Nat.le_of_ble_eq_true rfl, Nat.le_of_ble_eq_true rfl⟩, hw _ tl_m231, hw _ tl_m370⟩) (tl_preV hE hP (va_recv (q0 := 0) (ci := 2) (q := (R_M, F_M, 18)) hE.1 hP rfl rfl)) rfl rfl hl.1 rfl (lv_room (Nat.le_of_ble_eq_true rfl)) d_M_extend_17 ⟨Nat.zero_le _, Nat.zero_le _⟩) ?_
      refine lv_icmp_gt (tgt := 33) hx hb d_M_extend_20 (by decide) (fun h20 => ?_) (fun h20 => ?_)
      · -- 20 t
        refine lv_iconst (v := (-1)) hx hb d_M_extend_33 (by decide) ?_
        have hsp : tl_extend mI kI (E, nf, T, L, sz, rt, dn, wm, cr, Lp, ol, O) = (-1, (E, nf, T, L, sz, rt, dn, wm, cr, Lp, ol, O)) := by unfold tl_extend; dsimp only; rw [if_neg (by rw [h4]; decide)]; first | (rw [if_pos h12]; done) | (rw [if_neg h12, if_pos h20]; done) | (rw [if_neg h12, if_neg h20, if_pos h25]; done) | (rw [if_neg h12, if_neg h20, if_neg h25, if_neg h30]; done)
        refine lv_topi (nm_r (e' := (tl_extend mI kI (E, nf, T, L, sz, rt, dn, wm, cr, Lp, ol, O)).1) (by rw [hsp]; first | done | rw [ht1]) ?_)
        exact W.iret hx hb hr (fun t9 ht9 _ => tl_endI hS (by show tl_Y D cJ cI cZ bd (tl_extend mI kI (E, nf, T, L, sz, rt, dn, wm, cr, Lp, ol, O)).2 _; rw [hsp]; exact ⟨tf, hn, hs, cd, pf, pl, rw, rl, wh, th, hI0, hP⟩) ht9) hS.2.2 d_M_extend_34
      · -- 20 f
        refine lv_iload_n hx hb d_M_extend_23 rfl (lv_at hl 1 rfl) ?_
        refine lv_iconst (v := (nI (1))) hx hb d_M_extend_24 (by decide) ?_
        refine lv_icmp_lt (tgt := 33) hx hb d_M_extend_25 (by decide) (fun h25 => ?_) (fun h25 => ?_)
        · -- 25 t
          refine lv_iconst (v := (-1)) hx hb d_M_extend_33 (by decide) ?_
          have hsp : tl_extend mI kI (E, nf, T, L, sz, rt, dn, wm, cr, Lp, ol, O) = (-1, (E, nf, T, L, sz, rt, dn, wm, cr, Lp, ol, O)) := by unfold tl_extend; dsimp only; rw [if_neg (by rw [h4]; decide)]; first | (rw [if_pos h12]; done) | (rw [if_neg h12, if_pos h20]; done) | (rw [if_neg h12, if_neg h20, if_pos h25]; done) | (rw [if_neg h12, if_neg h20, if_neg h25, if_neg h30]; done)
          refine lv_topi (nm_r (e' := (tl_extend mI kI (E, nf, T, L, sz, rt, dn, wm, cr, Lp, ol, O)).1) (by rw [hsp]; first | done | rw [ht1]) ?_)
          exact W.iret hx hb hr (fun t9 ht9 _ => tl_endI hS (by show tl_Y D cJ cI cZ bd (tl_extend mI kI (E, nf, T, L, sz, rt, dn, wm, cr, Lp, ol, O)).2 _; rw [hsp]; exact ⟨tf, hn, hs, cd, pf, pl, rw, rl, wh, th, hI0, hP⟩) ht9) hS.2.2 d_M_extend_34
        · -- 25 f
          refine lv_iload_n hx hb d_M_extend_28 rfl (lv_at hl 1 rfl) ?_
          refine lv_iload_n hx hb d_M_extend_29 rfl (lv_at hl 2 rfl) ?_
          refine lv_icmp_le (tgt := 35) hx hb d_M_extend_30 (by decide) (fun h30 => ?_) (fun h30 => ?_)
          · -- 30 t
            obtain ⟨kk, hk1, hk2, rfl⟩ := tl_ge1 h12
            obtain ⟨mm, hm1, hm2, rfl⟩ := tl_ge1 h25
            have g20 : kk ≤ tl_pub L sz := Nat.le_of_not_lt (fun q => h20 ((nI_ltI (by omega) hk2).mpr q))
            have g30 : mm ≤ kk := (nI_leI hm2 hk2).mp h30
            have hlen := tl_bridge_len E 6 (by omega) mm 0 kk true (by omega) (by omega) (by omega) (by omega)
            refine lv_aload_n hx hb d_M_extend_35 rfl (lv_at hl 0 rfl) ?_
            refine lv_iconst (v := (nI (0))) hx hb d_M_extend_36 (by decide) ?_
            refine va_put (ci := 2) (v := .int (nI (0))) (ty := .int) (C := R_M) (T := F_M) (N := 18) hx hb hw iw_M ft_M ft_M_ok n_M hown hE.1 hP (tl_DV hap) hS 0 rfl rfl 10 (by decide) (hw _ tl_m210) (fun _ h9 => h9) rfl (by decide +kernel) rfl rfl (Nat.le_of_ble_eq_true rfl) d_M_extend_37 (fun H locs hP _ hS => ?_)
            have hP : va_P D tl_cl (tl_V cJ cI cZ bd E nf tf hn hs rt dn wm cr cd pf 0 O ol rw rl wh th) H := hP
            refine lv_iconst (v := (nI (0))) hx hb d_M_extend_40 (by decide) ?_
            refine lv_istore_n (lv' := [(3, .int (nI (0))), (0, .ref (bd 0)), (1, .int (nI (mm))), (2, .int (nI (kk)))]) hx hb d_M_extend_41 rfl hl (by decide) rfl (fun ls hl => ?_)
            refine lv_iload_n hx hb d_M_extend_42 rfl (lv_at hl 3 rfl) ?_
            refine lv_istore (lv' := [(4, .int (nI (kk))), (3, .int (nI (0))), (0, .ref (bd 0)), (1, .int (nI (mm))), (2, .int (nI (kk)))]) hx hb d_M_extend_43 hl (by decide) rfl (fun ls hl => ?_)
            refine lv_iload_n hx hb d_M_extend_45 rfl (lv_at hl 3 rfl) ?_
            refine lv_istore (lv' := [(5, .int (nI (mm))), (4, .int (nI (kk))), (3, .int (nI (0))), (0, .ref (bd 0)), (1, .int (nI (mm))), (2, .int (nI (kk)))]) hx hb d_M_extend_46 hl (by decide) rfl (fun ls hl => ?_)
            refine lv_iconst (v := (nI (1))) hx hb d_M_extend_48 (by decide) ?_
            refine lv_istore (lv' := [(6, .int (nI (1))), (5, .int (nI (mm))), (4, .int (nI (kk))), (3, .int (nI (0))), (0, .ref (bd 0)), (1, .int (nI (mm))), (2, .int (nI (kk)))]) hx hb d_M_extend_49 hl (by decide) rfl (fun ls hl => ?_)
            refine tl_loopW (fun n51 ls H locs => ∃ (fr : Nat) (s9 : Nat) (pq : Nat) (al : Bool) (xs : List Int64) (pl1 : Nat) (pf1 : Nat → Int64) (wh1 : Nat → Int64) (th1 : Nat → Int32), lv_has ls 11 [(3, .int (nI (fr))), (4, .int (nI (s9))), (5, .int (nI (pq))), (6, .int (tl_bi (al))), (0, .ref (bd 0))] ∧ va_P D tl_cl (tl_V cJ cI cZ bd E nf tf hn hs rt dn wm cr cd pf1 pl1 O ol rw rl wh1 th1) H ∧ va_S (tl_in bd 11) s.heap H locs ∧ (fr + s9 ≤ 64) ∧ (1 ≤ pq) ∧ (pq ≤ s9) ∧ (n51 = s9) ∧ (pl1 = xs.length) ∧ (∀ i, i < pl1 → pf1 i = xs.getD i 0) ∧ (xs ++ (tl_bridge E pq fr s9 al).reverse = (tl_bridge E mm 0 kk true).reverse)) (fun n51 ls H locs hI ih51 => ?_) kk _ _ _ ⟨0, kk, mm, true, [], 0, pf, wh, th, lv_sub hl [3, 2, 1, 0, 4] rfl, hP, hS, by omega, by omega, by omega, rfl, rfl, fun i hi => absurd hi (Nat.not_lt_zero _), rfl⟩
            obtain ⟨fr, s9, pq, al, xs, pl1, pf1, wh1, th1, hl, hP, hS, hfs, hp1, hps, hm, hpl1, hpf1, hx9⟩ := hI
            refine lv_iload hx hb d_M_extend_51 (lv_at hl 2 rfl) ?_
            refine lv_iload hx hb d_M_extend_53 (lv_at hl 1 rfl) ?_
            refine tl_cge (tgt := 183) (by omega) (by omega) hx hb d_M_extend_55 (by decide) (fun h55 => ?_) (fun h55 => ?_)
            · -- 55 t
              have hxl := tl_rev_l hx9
              have hpl6 : pl1 < 16 := by omega
              rw [show pq = s9 by omega, tl_bridge_0] at hx9
              refine lv_iload hx hb d_M_extend_183 (lv_at hl 3 rfl) ?_
              refine tl_bne (tgt := 203) hx hb d_M_extend_185 (by decide) (fun h185 => ?_) (fun h185 => ?_)
              · -- 185 t
                rw [h185] at hx9
                have hx8 := tl_rev_e hx9
                have hpl7 := hpl1
                have hpf7 := hpf1
                refine lv_aload_n hx hb d_M_extend_203 rfl (lv_at hl 4 rfl) ?_
                refine tl_doV (va_runV (As := []) (rest := []) ⟨hx, hb, hml, hown, hw⟩ (c_M_turn l D cJ cI cG cZ bd E nf tf hn hs rt dn wm cr cd pf1 pl1 O ol rw rl wh1 th1 hap (by omega)) (⟨tl_cB hw tl_m320 tl_m3 tl_m318 dd_M_turn rfl rfl ⟨Nat.le_of_ble_eq_true rfl, Nat.le_of_ble_eq_true rfl⟩, hw _ tl_m319, hw _ tl_m378⟩) (tl_preV hE hP (va_recv (q0 := 0) (ci := 2) (q := (R_M, F_M, 18)) hE.1 hP rfl rfl)) rfl rfl hl.1 rfl (lv_room (Nat.le_of_ble_eq_true rfl)) d_M_extend_204 ⟨Nat.zero_le _, Nat.zero_le _⟩) hS (fun _ h => h) (fun H locs hX hS _ => ?_)
                obtain ⟨pf9, hpf9, hP⟩ := hX
                have hP : va_P D tl_cl (tl_V cJ cI cZ bd E nf tf hn hs rt dn wm cr cd pf9 pl1 O ol rw rl wh1 th1) H := hP
                refine lv_aload_n hx hb d_M_extend_207 rfl (lv_at hl 4 rfl) ?_
                refine va_get (ci := 2) (v := .int (nI (pl1))) (C := R_M) (T := F_M) (N := 18) hx hb hw iw_M hown hE.1 hP 0 rfl rfl 10 (by decide) (hw _ tl_m210) (fun _ h9 => h9) rfl d_M_extend_208 ?_
                obtain ⟨ht1, ht2⟩ := tl_turned hpl7 hpf7 hx8 hpf9
                have hsp : tl_extend (nI (mm)) (nI (kk)) (E, nf, T, L, sz, rt, dn, wm, cr, Lp, ol, O) = (nI (tl_bridge E mm 0 kk true).length, (E, nf, T, L, sz, rt, dn, wm, cr, tl_bridge E mm 0 kk true, ol, O)) := by unfold tl_extend; dsimp only; rw [if_neg (by rw [h4]; decide), if_neg h12, if_neg h20, if_neg h25, if_pos h30, nI_clamp hm2, nI_clamp hk2]
                refine lv_topi (nm_r (e' := (tl_extend (nI (mm)) (nI (kk)) (E, nf, T, L, sz, rt, dn, wm, cr, Lp, ol, O)).1) (by rw [hsp]; first | done | rw [ht1]) ?_)
                exact W.iret hx hb hr (fun t9 ht9 _ => tl_endI hS (by show tl_Y D cJ cI cZ bd (tl_extend (nI (mm)) (nI (kk)) (E, nf, T, L, sz, rt, dn, wm, cr, Lp, ol, O)).2 _; rw [hsp]; exact ⟨tf, hn, hs, cd, pf9, pl1, rw, rl, wh1, th1, ⟨⟨hnf, hL, hh, hz, hsz, ht1, ht2, by omega, hol⟩, hsz0, htf⟩, hP⟩) ht9) hS.2.2 d_M_extend_211
              · -- 185 f
                rw [h185] at hx9
                have hx8 : (xs ++ [tl_root E fr s9]) = (tl_bridge E mm 0 kk true).reverse := hx9
                have hpl7 := tl_snoc_l (r := tl_root E fr s9) hpl1
                have hpf7 := tl_snoc (r := tl_root E fr s9) hpl1 hpf1
                refine lv_aload_n hx hb d_M_extend_188 rfl (lv_at hl 4 rfl) ?_
                refine lv_iload_n hx hb d_M_extend_189 rfl (lv_at hl 0 rfl) ?_
                refine lv_iload hx hb d_M_extend_190 (lv_at hl 1 rfl) ?_
                refine tl_doL (v := (tl_root E fr s9)) (va_runV (As := [.int (nI (fr)), .int (nI (s9))]) (rest := []) ⟨hx, hb, hml, hown, hw⟩ (c_M_rootAt l D cJ cI cG cZ bd E nf tf hn hs rt dn wm cr cd pf1 pl1 O ol rw rl wh1 th1 fr s9 hap (by omega)) (⟨tl_cB hw tl_m253 tl_m3 tl_m251 dd_M_rootAt rfl rfl ⟨Nat.le_of_ble_eq_true rfl, Nat.le_of_ble_eq_true rfl⟩, hw _ tl_m252, hw _ tl_m374⟩) (tl_preV hE hP (va_recv (q0 := 0) (ci := 2) (q := (R_M, F_M, 18)) hE.1 hP rfl rfl)) rfl rfl hl.1 rfl (lv_room (Nat.le_of_ble_eq_true rfl)) d_M_extend_192 ⟨Nat.zero_le _, Nat.zero_le _⟩) hS (fun _ h => h) (fun H locs hX hS _ => ?_)
                obtain ⟨wz1, tz2, hP⟩ := hX
                have hP : va_P D tl_cl (tl_V cJ cI cZ bd E nf tf hn hs rt dn wm cr cd pf1 pl1 O ol rw rl wz1 tz2) H := hP
                refine lv_lstore (lv' := [(7, .long (tl_root E fr s9)), (3, .int (nI (fr))), (4, .int (nI (s9))), (5, .int (nI (pq))), (6, .int (tl_bi (al))), (0, .ref (bd 0))]) hx hb d_M_extend_195 hl (by decide) rfl (fun ls hl => ?_)
                refine lv_aload_n hx hb d_M_extend_197 rfl (lv_at hl 5 rfl) ?_
                refine lv_lload hx hb d_M_extend_198 (lv_at hl 0 rfl) ?_
                refine tl_doV (va_runV (As := [.long (tl_root E fr s9)]) (rest := []) ⟨hx, hb, hml, hown, hw⟩ (c_M_say l D cJ cI cG cZ bd E nf tf hn hs rt dn wm cr cd pf1 pl1 O ol rw rl wz1 tz2 (tl_root E fr s9) hap (by omega)) (⟨tl_cB hw tl_m317 tl_m3 tl_m315 dd_M_say rfl rfl ⟨Nat.le_of_ble_eq_true rfl, Nat.le_of_ble_eq_true rfl⟩, hw _ tl_m316, hw _ tl_m377⟩) (tl_preV hE hP (va_recv (q0 := 0) (ci := 2) (q := (R_M, F_M, 18)) hE.1 hP rfl rfl)) rfl rfl hl.1 rfl (lv_room (Nat.le_of_ble_eq_true rfl)) d_M_extend_200 ⟨Nat.zero_le _, Nat.zero_le _⟩) hS (fun _ h => h) (fun H locs hP hS _ => ?_)
                have hP : va_P D tl_cl (tl_V cJ cI cZ bd E nf tf hn hs rt dn wm cr cd (vp_updL pf1 pl1 (tl_root E fr s9)) (pl1 + 1) O ol rw rl wz1 tz2) H := hP
                refine lv_aload_n hx hb d_M_extend_203 rfl (lv_at hl 5 rfl) ?_
                refine tl_doV (va_runV (As := []) (rest := []) ⟨hx, hb, hml, hown, hw⟩ (c_M_turn l D cJ cI cG cZ bd E nf tf hn hs rt dn wm cr cd (vp_updL pf1 pl1 (tl_root E fr s9)) (pl1 + 1) O ol rw rl wz1 tz2 hap (by omega)) (⟨tl_cB hw tl_m320 tl_m3 tl_m318 dd_M_turn rfl rfl ⟨Nat.le_of_ble_eq_true rfl, Nat.le_of_ble_eq_true rfl⟩, hw _ tl_m319, hw _ tl_m378⟩) (tl_preV hE hP (va_recv (q0 := 0) (ci := 2) (q := (R_M, F_M, 18)) hE.1 hP rfl rfl)) rfl rfl hl.1 rfl (lv_room (Nat.le_of_ble_eq_true rfl)) d_M_extend_204 ⟨Nat.zero_le _, Nat.zero_le _⟩) hS (fun _ h => h) (fun H locs hX hS _ => ?_)
                obtain ⟨pf9, hpf9, hP⟩ := hX
                have hP : va_P D tl_cl (tl_V cJ cI cZ bd E nf tf hn hs rt dn wm cr cd pf9 (pl1 + 1) O ol rw rl wz1 tz2) H := hP
                refine lv_aload_n hx hb d_M_extend_207 rfl (lv_at hl 5 rfl) ?_
                refine va_get (ci := 2) (v := .int (nI (pl1 + 1))) (C := R_M) (T := F_M) (N := 18) hx hb hw iw_M hown hE.1 hP 0 rfl rfl 10 (by decide) (hw _ tl_m210) (fun _ h9 => h9) rfl d_M_extend_208 ?_
                obtain ⟨ht1, ht2⟩ := tl_turned hpl7 hpf7 hx8 hpf9
                have hsp : tl_extend (nI (mm)) (nI (kk)) (E, nf, T, L, sz, rt, dn, wm, cr, Lp, ol, O) = (nI (tl_bridge E mm 0 kk true).length, (E, nf, T, L, sz, rt, dn, wm, cr, tl_bridge E mm 0 kk true, ol, O)) := by unfold tl_extend; dsimp only; rw [if_neg (by rw [h4]; decide), if_neg h12, if_neg h20, if_neg h25, if_pos h30, nI_clamp hm2, nI_clamp hk2]
                refine lv_topi (nm_r (e' := (tl_extend (nI (mm)) (nI (kk)) (E, nf, T, L, sz, rt, dn, wm, cr, Lp, ol, O)).1) (by rw [hsp]; first | done | rw [ht1]) ?_)
                exact W.iret hx hb hr (fun t9 ht9 _ => tl_endI hS (by show tl_Y D cJ cI cZ bd (tl_extend (nI (mm)) (nI (kk)) (E, nf, T, L, sz, rt, dn, wm, cr, Lp, ol, O)).2 _; rw [hsp]; exact ⟨tf, hn, hs, cd, pf9, (pl1 + 1), rw, rl, wz1, tz2, ⟨⟨hnf, hL, hh, hz, hsz, ht1, ht2, by omega, hol⟩, hsz0, htf⟩, hP⟩) ht9) hS.2.2 d_M_extend_211
            · -- 55 f
              have hk := tl_half_ok s9 (by omega) (by omega)
              have hxl := tl_rev_l hx9
              have hpl6 : pl1 < 16 := by omega
              refine lv_iload hx hb d_M_extend_58 (lv_at hl 1 rfl) ?_
              refine tl_goI (v := (nI (tl_half s9))) (va_runS (As := [.int (nI (s9))]) (rest := []) ⟨hx, hb, hml, hown, hw⟩ (c_M_half l s9 (by omega)) (⟨tl_cB hw tl_m314 tl_m3 tl_m312 dd_M_half rfl rfl ⟨Nat.le_of_ble_eq_true rfl, Nat.le_of_ble_eq_true rfl⟩, hw _ tl_m313⟩) (tl_pre0) rfl rfl hl.1 rfl (lv_room (Nat.le_of_ble_eq_true rfl)) d_M_extend_60 ⟨Nat.zero_le _, Nat.zero_le _⟩) ?_
              refine lv_istore (lv' := [(7, .int (nI (tl_half s9))), (3, .int (nI (fr))), (4, .int (nI (s9))), (5, .int (nI (pq))), (6, .int (tl_bi (al))), (0, .ref (bd 0))]) hx hb d_M_extend_63 hl (by decide) rfl (fun ls hl => ?_)
              refine lv_iload hx hb d_M_extend_65 (lv_at hl 3 rfl) ?_
              refine lv_iload hx hb d_M_extend_67 (lv_at hl 0 rfl) ?_
              refine tl_cgt (tgt := 76) (by omega) (by omega) hx hb d_M_extend_69 (by decide) (fun h69 => ?_) (fun h69 => ?_)
              · -- 69 t
                refine lv_iconst (v := (nI (0))) hx hb d_M_extend_76 (by decide) ?_
                refine lv_istore (lv' := [(8, .int (nI (0))), (7, .int (nI (tl_half s9))), (3, .int (nI (fr))), (4, .int (nI (s9))), (5, .int (nI (pq))), (6, .int (tl_bi (al))), (0, .ref (bd 0))]) hx hb d_M_extend_77 hl (by decide) rfl (fun ls hl => ?_)
                refine lv_iload hx hb d_M_extend_79 (lv_at hl 0 rfl) ?_
                refine tl_zeq (a := 0) (tgt := 100) (by omega) hx hb d_M_extend_81 (by decide) (fun _ => ?_) (fun h => absurd h (by decide))
                refine lv_aload_n hx hb d_M_extend_100 rfl (lv_at hl 6 rfl) ?_
                refine lv_iload_n hx hb d_M_extend_101 rfl (lv_at hl 2 rfl) ?_
                refine lv_iload hx hb d_M_extend_102 (lv_at hl 1 rfl) ?_
                refine tl_doL (v := (tl_root E fr (tl_half s9))) (va_runV (As := [.int (nI (fr)), .int (nI (tl_half s9))]) (rest := []) ⟨hx, hb, hml, hown, hw⟩ (c_M_rootAt l D cJ cI cG cZ bd E nf tf hn hs rt dn wm cr cd pf1 pl1 O ol rw rl wh1 th1 fr (tl_half s9) hap (by omega)) (⟨tl_cB hw tl_m253 tl_m3 tl_m251 dd_M_rootAt rfl rfl ⟨Nat.le_of_ble_eq_true rfl, Nat.le_of_ble_eq_true rfl⟩, hw _ tl_m252, hw _ tl_m374⟩) (tl_preV hE hP (va_recv (q0 := 0) (ci := 2) (q := (R_M, F_M, 18)) hE.1 hP rfl rfl)) rfl rfl hl.1 rfl (lv_room (Nat.le_of_ble_eq_true rfl)) d_M_extend_104 ⟨Nat.zero_le _, Nat.zero_le _⟩) hS (fun _ h => h) (fun H locs hX hS _ => ?_)
                obtain ⟨wz3, tz4, hP⟩ := hX
                have hP : va_P D tl_cl (tl_V cJ cI cZ bd E nf tf hn hs rt dn wm cr cd pf1 pl1 O ol rw rl wz3 tz4) H := hP
                refine lv_lstore (lv' := [(9, .long (tl_root E fr (tl_half s9))), (8, .int (nI (0))), (7, .int (nI (tl_half s9))), (3, .int (nI (fr))), (4, .int (nI (s9))), (5, .int (nI (pq))), (6, .int (tl_bi (al))), (0, .ref (bd 0))]) hx hb d_M_extend_107 hl (by decide) rfl (fun ls hl => ?_)
                refine lv_aload_n hx hb d_M_extend_109 rfl (lv_at hl 7 rfl) ?_
                refine lv_lload hx hb d_M_extend_110 (lv_at hl 0 rfl) ?_
                refine tl_doV (va_runV (As := [.long (tl_root E fr (tl_half s9))]) (rest := []) ⟨hx, hb, hml, hown, hw⟩ (c_M_say l D cJ cI cG cZ bd E nf tf hn hs rt dn wm cr cd pf1 pl1 O ol rw rl wz3 tz4 (tl_root E fr (tl_half s9)) hap (by omega)) (⟨tl_cB hw tl_m317 tl_m3 tl_m315 dd_M_say rfl rfl ⟨Nat.le_of_ble_eq_true rfl, Nat.le_of_ble_eq_true rfl⟩, hw _ tl_m316, hw _ tl_m377⟩) (tl_preV hE hP (va_recv (q0 := 0) (ci := 2) (q := (R_M, F_M, 18)) hE.1 hP rfl rfl)) rfl rfl hl.1 rfl (lv_room (Nat.le_of_ble_eq_true rfl)) d_M_extend_112 ⟨Nat.zero_le _, Nat.zero_le _⟩) hS (fun _ h => h) (fun H locs hP hS _ => ?_)
                have hP : va_P D tl_cl (tl_V cJ cI cZ bd E nf tf hn hs rt dn wm cr cd (vp_updL pf1 pl1 (tl_root E fr (tl_half s9))) (pl1 + 1) O ol rw rl wz3 tz4) H := hP
                refine lv_iload hx hb d_M_extend_115 (lv_at hl 1 rfl) ?_
                refine tl_zeq (a := 0) (tgt := 124) (by omega) hx hb d_M_extend_117 (by decide) (fun _ => ?_) (fun h => absurd h (by decide))
                refine lv_iload_n hx hb d_M_extend_124 rfl (lv_at hl 3 rfl) ?_
                refine lv_iload hx hb d_M_extend_125 (lv_at hl 2 rfl) ?_
                refine lv_iadd hx hb d_M_extend_127 ?_
                refine lv_topi (nm_r (e' := (nI (fr + (tl_half s9)))) (nI_add _ _) ?_)
                refine lv_istore_n (lv' := [(3, .int (nI (fr + (tl_half s9)))), (9, .long (tl_root E fr (tl_half s9))), (8, .int (nI (0))), (7, .int (nI (tl_half s9))), (4, .int (nI (s9))), (5, .int (nI (pq))), (6, .int (tl_bi (al))), (0, .ref (bd 0))]) hx hb d_M_extend_128 rfl hl (by decide) rfl (fun ls hl => ?_)
                refine lv_iload hx hb d_M_extend_129 (lv_at hl 2 rfl) ?_
                refine tl_zeq (a := 0) (tgt := 139) (by omega) hx hb d_M_extend_131 (by decide) (fun _ => ?_) (fun h => absurd h (by decide))
                refine lv_iload hx hb d_M_extend_139 (lv_at hl 5 rfl) ?_
                refine lv_iload hx hb d_M_extend_141 (lv_at hl 3 rfl) ?_
                refine lv_isub hx hb d_M_extend_143 ?_
                refine lv_topi (nm_r (e' := (nI (pq - (tl_half s9)))) (pk_sub (by omega)) ?_)
                refine lv_istore (lv' := [(5, .int (nI (pq - (tl_half s9)))), (3, .int (nI (fr + (tl_half s9)))), (9, .long (tl_root E fr (tl_half s9))), (8, .int (nI (0))), (7, .int (nI (tl_half s9))), (4, .int (nI (s9))), (6, .int (tl_bi (al))), (0, .ref (bd 0))]) hx hb d_M_extend_144 hl (by decide) rfl (fun ls hl => ?_)
                refine lv_iload hx hb d_M_extend_146 (lv_at hl 3 rfl) ?_
                refine tl_zeq (a := 0) (tgt := 156) (by omega) hx hb d_M_extend_148 (by decide) (fun _ => ?_) (fun h => absurd h (by decide))
                refine lv_iload hx hb d_M_extend_156 (lv_at hl 5 rfl) ?_
                refine lv_iload hx hb d_M_extend_158 (lv_at hl 4 rfl) ?_
                refine lv_isub hx hb d_M_extend_160 ?_
                refine lv_topi (nm_r (e' := (nI (s9 - (tl_half s9)))) (pk_sub (by omega)) ?_)
                refine lv_istore (lv' := [(4, .int (nI (s9 - (tl_half s9)))), (5, .int (nI (pq - (tl_half s9)))), (3, .int (nI (fr + (tl_half s9)))), (9, .long (tl_root E fr (tl_half s9))), (8, .int (nI (0))), (7, .int (nI (tl_half s9))), (6, .int (tl_bi (al))), (0, .ref (bd 0))]) hx hb d_M_extend_161 hl (by decide) rfl (fun ls hl => ?_)
                refine lv_iload hx hb d_M_extend_163 (lv_at hl 6 rfl) ?_
                refine tl_beq (tgt := 177) hx hb d_M_extend_165 (by decide) (fun h165 => ?_) (fun h165 => ?_)
                · -- 165 t
                  refine lv_iconst (v := (nI (0))) hx hb d_M_extend_177 (by decide) ?_
                  refine lv_istore (lv' := [(6, .int (nI (0))), (4, .int (nI (s9 - (tl_half s9)))), (5, .int (nI (pq - (tl_half s9)))), (3, .int (nI (fr + (tl_half s9)))), (9, .long (tl_root E fr (tl_half s9))), (8, .int (nI (0))), (7, .int (nI (tl_half s9))), (0, .ref (bd 0))]) hx hb d_M_extend_178 hl (by decide) rfl (fun ls hl => ?_)
                  refine lv_goto (tgt := 51) hx hb d_M_extend_180 (by decide) ?_
                  exact ih51 (s9 - tl_half s9) _ _ _ (by omega) ⟨fr + tl_half s9, s9 - tl_half s9, pq - tl_half s9, false, xs ++ [tl_root E fr (tl_half s9)], pl1 + 1, (vp_updL pf1 pl1 (tl_root E fr (tl_half s9))), wz3, tz4, lv_sub hl [3, 1, 2, 0, 7] rfl, hP, hS, by omega, by omega, by omega, rfl, tl_snoc_l hpl1, tl_snoc hpl1 hpf1, (by rw [tl_bridge_un E pq fr s9 al (by omega) (by omega) (by omega), if_neg (by omega)] at hx9; exact tl_rev_s hx9)⟩
                · -- 165 f
                  refine lv_iload hx hb d_M_extend_168 (lv_at hl 4 rfl) ?_
                  refine tl_zeq (a := 0) (tgt := 177) (by omega) hx hb d_M_extend_170 (by decide) (fun _ => ?_) (fun h => absurd h (by decide))
                  refine lv_iconst (v := (nI (0))) hx hb d_M_extend_177 (by decide) ?_
                  refine lv_istore (lv' := [(6, .int (nI (0))), (4, .int (nI (s9 - (tl_half s9)))), (5, .int (nI (pq - (tl_half s9)))), (3, .int (nI (fr + (tl_half s9)))), (9, .long (tl_root E fr (tl_half s9))), (8, .int (nI (0))), (7, .int (nI (tl_half s9))), (0, .ref (bd 0))]) hx hb d_M_extend_178 hl (by decide) rfl (fun ls hl => ?_)
                  refine lv_goto (tgt := 51) hx hb d_M_extend_180 (by decide) ?_
                  exact ih51 (s9 - tl_half s9) _ _ _ (by omega) ⟨fr + tl_half s9, s9 - tl_half s9, pq - tl_half s9, false, xs ++ [tl_root E fr (tl_half s9)], pl1 + 1, (vp_updL pf1 pl1 (tl_root E fr (tl_half s9))), wz3, tz4, lv_sub hl [3, 1, 2, 0, 7] rfl, hP, hS, by omega, by omega, by omega, rfl, tl_snoc_l hpl1, tl_snoc hpl1 hpf1, (by rw [tl_bridge_un E pq fr s9 al (by omega) (by omega) (by omega), if_neg (by omega)] at hx9; exact tl_rev_s hx9)⟩
              · -- 69 f
                refine lv_iconst (v := (nI (1))) hx hb d_M_extend_72 (by decide) ?_
                refine lv_goto (tgt := 77) hx hb d_M_extend_73 (by decide) ?_
                refine lv_istore (lv' := [(8, .int (nI (1))), (7, .int (nI (tl_half s9))), (3, .int (nI (fr))), (4, .int (nI (s9))), (5, .int (nI (pq))), (6, .int (tl_bi (al))), (0, .ref (bd 0))]) hx hb d_M_extend_77 hl (by decide) rfl (fun ls hl => ?_)
                refine lv_iload hx hb d_M_extend_79 (lv_at hl 0 rfl) ?_
                refine tl_zeq (a := 1) (tgt := 100) (by omega) hx hb d_M_extend_81 (by decide) (fun h => absurd h (by decide)) (fun _ => ?_)
                refine lv_aload_n hx hb d_M_extend_84 rfl (lv_at hl 6 rfl) ?_
                refine lv_iload_n hx hb d_M_extend_85 rfl (lv_at hl 2 rfl) ?_
                refine lv_iload hx hb d_M_extend_86 (lv_at hl 1 rfl) ?_
                refine lv_iadd hx hb d_M_extend_88 ?_
                refine lv_topi (nm_r (e' := (nI (fr + (tl_half s9)))) (nI_add _ _) ?_)
                refine lv_iload hx hb d_M_extend_89 (lv_at hl 3 rfl) ?_
                refine lv_iload hx hb d_M_extend_91 (lv_at hl 1 rfl) ?_
                refine lv_isub hx hb d_M_extend_93 ?_
                refine lv_topi (nm_r (e' := (nI (s9 - (tl_half s9)))) (pk_sub (by omega)) ?_)
                refine tl_doL (v := (tl_root E (fr + (tl_half s9)) (s9 - (tl_half s9)))) (va_runV (As := [.int (nI (fr + (tl_half s9))), .int (nI (s9 - (tl_half s9)))]) (rest := []) ⟨hx, hb, hml, hown, hw⟩ (c_M_rootAt l D cJ cI cG cZ bd E nf tf hn hs rt dn wm cr cd pf1 pl1 O ol rw rl wh1 th1 (fr + (tl_half s9)) (s9 - (tl_half s9)) hap (by omega)) (⟨tl_cB hw tl_m253 tl_m3 tl_m251 dd_M_rootAt rfl rfl ⟨Nat.le_of_ble_eq_true rfl, Nat.le_of_ble_eq_true rfl⟩, hw _ tl_m252, hw _ tl_m374⟩) (tl_preV hE hP (va_recv (q0 := 0) (ci := 2) (q := (R_M, F_M, 18)) hE.1 hP rfl rfl)) rfl rfl hl.1 rfl (lv_room (Nat.le_of_ble_eq_true rfl)) d_M_extend_94 ⟨Nat.zero_le _, Nat.zero_le _⟩) hS (fun _ h => h) (fun H locs hX hS _ => ?_)
                obtain ⟨wz5, tz6, hP⟩ := hX
                have hP : va_P D tl_cl (tl_V cJ cI cZ bd E nf tf hn hs rt dn wm cr cd pf1 pl1 O ol rw rl wz5 tz6) H := hP
                refine lv_goto (tgt := 107) hx hb d_M_extend_97 (by decide) ?_
                refine lv_lstore (lv' := [(9, .long (tl_root E (fr + (tl_half s9)) (s9 - (tl_half s9)))), (8, .int (nI (1))), (7, .int (nI (tl_half s9))), (3, .int (nI (fr))), (4, .int (nI (s9))), (5, .int (nI (pq))), (6, .int (tl_bi (al))), (0, .ref (bd 0))]) hx hb d_M_extend_107 hl (by decide) rfl (fun ls hl => ?_)
                refine lv_aload_n hx hb d_M_extend_109 rfl (lv_at hl 7 rfl) ?_
                refine lv_lload hx hb d_M_extend_110 (lv_at hl 0 rfl) ?_
                refine tl_doV (va_runV (As := [.long (tl_root E (fr + (tl_half s9)) (s9 - (tl_half s9)))]) (rest := []) ⟨hx, hb, hml, hown, hw⟩ (c_M_say l D cJ cI cG cZ bd E nf tf hn hs rt dn wm cr cd pf1 pl1 O ol rw rl wz5 tz6 (tl_root E (fr + (tl_half s9)) (s9 - (tl_half s9))) hap (by omega)) (⟨tl_cB hw tl_m317 tl_m3 tl_m315 dd_M_say rfl rfl ⟨Nat.le_of_ble_eq_true rfl, Nat.le_of_ble_eq_true rfl⟩, hw _ tl_m316, hw _ tl_m377⟩) (tl_preV hE hP (va_recv (q0 := 0) (ci := 2) (q := (R_M, F_M, 18)) hE.1 hP rfl rfl)) rfl rfl hl.1 rfl (lv_room (Nat.le_of_ble_eq_true rfl)) d_M_extend_112 ⟨Nat.zero_le _, Nat.zero_le _⟩) hS (fun _ h => h) (fun H locs hP hS _ => ?_)
                have hP : va_P D tl_cl (tl_V cJ cI cZ bd E nf tf hn hs rt dn wm cr cd (vp_updL pf1 pl1 (tl_root E (fr + (tl_half s9)) (s9 - (tl_half s9)))) (pl1 + 1) O ol rw rl wz5 tz6) H := hP
                refine lv_iload hx hb d_M_extend_115 (lv_at hl 1 rfl) ?_
                refine tl_zeq (a := 1) (tgt := 124) (by omega) hx hb d_M_extend_117 (by decide) (fun h => absurd h (by decide)) (fun _ => ?_)
                refine lv_iload_n hx hb d_M_extend_120 rfl (lv_at hl 3 rfl) ?_
                refine lv_goto (tgt := 128) hx hb d_M_extend_121 (by decide) ?_
                refine lv_istore_n (lv' := [(3, .int (nI (fr))), (9, .long (tl_root E (fr + (tl_half s9)) (s9 - (tl_half s9)))), (8, .int (nI (1))), (7, .int (nI (tl_half s9))), (4, .int (nI (s9))), (5, .int (nI (pq))), (6, .int (tl_bi (al))), (0, .ref (bd 0))]) hx hb d_M_extend_128 rfl hl (by decide) rfl (fun ls hl => ?_)
                refine lv_iload hx hb d_M_extend_129 (lv_at hl 2 rfl) ?_
                refine tl_zeq (a := 1) (tgt := 139) (by omega) hx hb d_M_extend_131 (by decide) (fun h => absurd h (by decide)) (fun _ => ?_)
                refine lv_iload hx hb d_M_extend_134 (lv_at hl 5 rfl) ?_
                refine lv_goto (tgt := 144) hx hb d_M_extend_136 (by decide) ?_
                refine lv_istore (lv' := [(5, .int (nI (pq))), (3, .int (nI (fr))), (9, .long (tl_root E (fr + (tl_half s9)) (s9 - (tl_half s9)))), (8, .int (nI (1))), (7, .int (nI (tl_half s9))), (4, .int (nI (s9))), (6, .int (tl_bi (al))), (0, .ref (bd 0))]) hx hb d_M_extend_144 hl (by decide) rfl (fun ls hl => ?_)
                refine lv_iload hx hb d_M_extend_146 (lv_at hl 3 rfl) ?_
                refine tl_zeq (a := 1) (tgt := 156) (by omega) hx hb d_M_extend_148 (by decide) (fun h => absurd h (by decide)) (fun _ => ?_)
                refine lv_iload hx hb d_M_extend_151 (lv_at hl 4 rfl) ?_
                refine lv_goto (tgt := 161) hx hb d_M_extend_153 (by decide) ?_
                refine lv_istore (lv' := [(4, .int (nI (tl_half s9))), (5, .int (nI (pq))), (3, .int (nI (fr))), (9, .long (tl_root E (fr + (tl_half s9)) (s9 - (tl_half s9)))), (8, .int (nI (1))), (7, .int (nI (tl_half s9))), (6, .int (tl_bi (al))), (0, .ref (bd 0))]) hx hb d_M_extend_161 hl (by decide) rfl (fun ls hl => ?_)
                refine lv_iload hx hb d_M_extend_163 (lv_at hl 6 rfl) ?_
                refine tl_beq (tgt := 177) hx hb d_M_extend_165 (by decide) (fun h165 => ?_) (fun h165 => ?_)
                · -- 165 t
                  refine lv_iconst (v := (nI (0))) hx hb d_M_extend_177 (by decide) ?_
                  refine lv_istore (lv' := [(6, .int (nI (0))), (4, .int (nI (tl_half s9))), (5, .int (nI (pq))), (3, .int (nI (fr))), (9, .long (tl_root E (fr + (tl_half s9)) (s9 - (tl_half s9)))), (8, .int (nI (1))), (7, .int (nI (tl_half s9))), (0, .ref (bd 0))]) hx hb d_M_extend_178 hl (by decide) rfl (fun ls hl => ?_)
                  refine lv_goto (tgt := 51) hx hb d_M_extend_180 (by decide) ?_
                  exact ih51 (tl_half s9) _ _ _ (by omega) ⟨fr, tl_half s9, pq, false, xs ++ [tl_root E (fr + tl_half s9) (s9 - tl_half s9)], pl1 + 1, (vp_updL pf1 pl1 (tl_root E (fr + (tl_half s9)) (s9 - (tl_half s9)))), wz5, tz6, lv_sub hl [3, 1, 2, 0, 7] rfl, hP, hS, by omega, by omega, by omega, rfl, tl_snoc_l hpl1, tl_snoc hpl1 hpf1, (by rw [tl_bridge_un E pq fr s9 al (by omega) (by omega) (by omega), if_pos h69, h165] at hx9; exact tl_rev_s hx9)⟩
                · -- 165 f
                  refine lv_iload hx hb d_M_extend_168 (lv_at hl 4 rfl) ?_
                  refine tl_zeq (a := 1) (tgt := 177) (by omega) hx hb d_M_extend_170 (by decide) (fun h => absurd h (by decide)) (fun _ => ?_)
                  refine lv_iconst (v := (nI (1))) hx hb d_M_extend_173 (by decide) ?_
                  refine lv_goto (tgt := 178) hx hb d_M_extend_174 (by decide) ?_
                  refine lv_istore (lv' := [(6, .int (nI (1))), (4, .int (nI (tl_half s9))), (5, .int (nI (pq))), (3, .int (nI (fr))), (9, .long (tl_root E (fr + (tl_half s9)) (s9 - (tl_half s9)))), (8, .int (nI (1))), (7, .int (nI (tl_half s9))), (0, .ref (bd 0))]) hx hb d_M_extend_178 hl (by decide) rfl (fun ls hl => ?_)
                  refine lv_goto (tgt := 51) hx hb d_M_extend_180 (by decide) ?_
                  exact ih51 (tl_half s9) _ _ _ (by omega) ⟨fr, tl_half s9, pq, true, xs ++ [tl_root E (fr + tl_half s9) (s9 - tl_half s9)], pl1 + 1, (vp_updL pf1 pl1 (tl_root E (fr + (tl_half s9)) (s9 - (tl_half s9)))), wz5, tz6, lv_sub hl [3, 1, 2, 0, 7] rfl, hP, hS, by omega, by omega, by omega, rfl, tl_snoc_l hpl1, tl_snoc hpl1 hpf1, (by rw [tl_bridge_un E pq fr s9 al (by omega) (by omega) (by omega), if_pos h69, h165] at hx9; exact tl_rev_s hx9)⟩
          · -- 30 f
            refine lv_iconst (v := (-1)) hx hb d_M_extend_33 (by decide) ?_
            have hsp : tl_extend mI kI (E, nf, T, L, sz, rt, dn, wm, cr, Lp, ol, O) = (-1, (E, nf, T, L, sz, rt, dn, wm, cr, Lp, ol, O)) := by unfold tl_extend; dsimp only; rw [if_neg (by rw [h4]; decide)]; first | (rw [if_pos h12]; done) | (rw [if_neg h12, if_pos h20]; done) | (rw [if_neg h12, if_neg h20, if_pos h25]; done) | (rw [if_neg h12, if_neg h20, if_neg h25, if_neg h30]; done)
            refine lv_topi (nm_r (e' := (tl_extend mI kI (E, nf, T, L, sz, rt, dn, wm, cr, Lp, ol, O)).1) (by rw [hsp]; first | done | rw [ht1]) ?_)
            exact W.iret hx hb hr (fun t9 ht9 _ => tl_endI hS (by show tl_Y D cJ cI cZ bd (tl_extend mI kI (E, nf, T, L, sz, rt, dn, wm, cr, Lp, ol, O)).2 _; rw [hsp]; exact ⟨tf, hn, hs, cd, pf, pl, rw, rl, wh, th, hI0, hP⟩) ht9) hS.2.2 d_M_extend_34
  · -- 4 f
    refine lv_bipush (v := (-2)) hx hb d_M_extend_7 (by decide) ?_
    have hsp : tl_extend mI kI (E, nf, T, L, sz, rt, dn, wm, cr, Lp, ol, O) = (-2, (E, nf, T, L, sz, rt, dn, wm, cr, Lp, ol, O)) := by unfold tl_extend; dsimp only; rw [h4]; rfl
    refine lv_topi (nm_r (e' := (tl_extend mI kI (E, nf, T, L, sz, rt, dn, wm, cr, Lp, ol, O)).1) (by rw [hsp]; first | done | rw [ht1]) ?_)
    exact W.iret hx hb hr (fun t9 ht9 _ => tl_endI hS (by show tl_Y D cJ cI cZ bd (tl_extend mI kI (E, nf, T, L, sz, rt, dn, wm, cr, Lp, ol, O)).2 _; rw [hsp]; exact ⟨tf, hn, hs, cd, pf, pl, rw, rl, wh, th, hI0, hP⟩) ht9) hS.2.2 d_M_extend_9
