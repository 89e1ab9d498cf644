set_option maxHeartbeats 4000000 in
set_option maxRecDepth 100000 in
theorem c_T_addToProof (l : Launch) (D : va_G) (cJ cI cG cZ : ClassId) (ad : Nat → Nat) (E : Nat → Int64) (nf : Nat) (T : Nat → Nat → Int64) (hn hs : Nat → Int32) (rt : Nat → Int64) (dn : Bool) (wm cr : Int32) (pf : Nat → Int64) (pl : Nat) (O : Nat → Int64) (ol : Nat) (r8 : Nat → Int64) (a n : Nat) (hap : tl_ap ad 19) (hpl : pl < 7) (han : a + n ≤ 64) : Met l y_T_addToProof (k_T_addToProof :: tl_ws) { frames := 9, cells := 0, slots := 0, locals := 211 } (tl_Pc D cJ cI cG cZ [.ref (ad 0), .int (nI (a)), .int (nI (n))] (fun H => va_P D tl_cl (tl_W cJ cI cG ad E nf T hn hs rt dn wm cr pf pl O ol r8) H)) (tl_Qv (fun H => va_P D tl_cl (tl_W cJ cI cG ad E nf T hn hs rt dn wm cr (vp_updL pf pl (tl_root E a n)) (pl + 1) O ol r8) H) (tl_in ad 19)) 0 0 (tl_in ad 19) := by
  refine Met.ofW (cc := b_T_addToProof) (maxL := 3) (ret := none) (by decide) rfl ?_
  intro p e s m args below meth c s₁ B hml hv
  obtain ⟨rfl, hE, hP⟩ := hv
  have hx := B.exec
  have hb := B.bytes
  have hr := B.returns
  have hw : ∀ w ∈ tl_ws, w.before ([.ref (ad 0), .int (nI (a)), .int (nI (n))] : List Value).toArray s = true := fun w h => atoms_spec (ws := k_T_addToProof :: tl_ws) B.pre w (List.mem_cons_of_mem _ h)
  have hown : s.vm.findClass R_T = some m.cls := findClass_of_methodNamed B.named
  have hlocks := B.notSynchronized
  have hl := lv_entry ([.ref (ad 0), .int (nI (a)), .int (nI (n))]) (n := 3) (Nat.le_of_ble_eq_true rfl)
  rw [lg_entry_eq]
  generalize (lg_sl ([.ref (ad 0), .int (nI (a)), .int (nI (n))]) ++ List.replicate (3 - (lg_sl ([.ref (ad 0), .int (nI (a)), .int (nI (n))])).length) Slot.unset).toArray = ls at hl ⊢
  have hl : lv_has ls 3 [(0, .ref (ad 0)), (1, .int (nI (a))), (2, .int (nI (n)))] := hl
  have hP : va_P D tl_cl (tl_W cJ cI cG ad E nf T hn hs rt dn wm cr pf pl O ol r8) s.heap := hP
  have hS : va_S (tl_in ad 19) s.heap s.heap [] := va_S.rf
  refine lv_aload_n hx hb d_T_addToProof_0 rfl (lv_at hl 0 rfl) ?_
  refine va_get (ci := 0) (v := .int (nI (pl))) (C := R_T) (T := F_T) (N := 5) hx hb hw iw_T hown hE.1 hP 0 rfl rfl 2 (by decide) (hw _ tl_m34) (fun _ h9 => h9) rfl d_T_addToProof_1 ?_
  refine lv_bipush (v := (nI (7))) hx hb d_T_addToProof_4 (by decide) ?_
  refine tl_cge (tgt := 40) (by omega) (by omega) hx hb d_T_addToProof_6 (by decide) (fun h6 => ?_) (fun h6 => ?_)
  · -- 6 t
    exact absurd h6 (by omega)
  · -- 6 f
    refine lv_aload_n hx hb d_T_addToProof_9 rfl (lv_at hl 0 rfl) ?_
    refine va_get (ci := 0) (v := .ref (ad 2)) (C := R_T) (T := F_T) (N := 5) hx hb hw iw_T hown hE.1 hP 0 rfl rfl 1 (by decide) (hw _ tl_m33) (fun _ h9 => h9) rfl d_T_addToProof_10 ?_
    refine lv_aload_n hx hb d_T_addToProof_13 rfl (lv_at hl 0 rfl) ?_
    refine va_get (ci := 0) (v := .int (nI (pl))) (C := R_T) (T := F_T) (N := 5) hx hb hw iw_T hown hE.1 hP 0 rfl rfl 2 (by decide) (hw _ tl_m34) (fun _ h9 => h9) rfl d_T_addToProof_14 ?_
    refine lv_aload_n hx hb d_T_addToProof_17 rfl (lv_at hl 0 rfl) ?_
    refine va_get (ci := 0) (v := .ref (ad 1)) (C := R_T) (T := F_T) (N := 5) hx hb hw iw_T hown hE.1 hP 0 rfl rfl 0 (by decide) (hw _ tl_m32) (fun _ h9 => h9) rfl d_T_addToProof_18 ?_
    refine va_getN (ci := 1) (v := .ref (ad 4)) (C := R_D) (T := F_D) (N := 10) hx hb hw iw_D hown hE.1 hP 1 rfl rfl 0 (by decide) (tl_f0 hE.2) (fun _ h9 => h9) rfl d_T_addToProof_21 ?_
    refine lv_iload_n hx hb d_T_addToProof_24 rfl (lv_at hl 1 rfl) ?_
    refine lv_iload_n hx hb d_T_addToProof_25 rfl (lv_at hl 2 rfl) ?_
    refine tl_goL (v := (tl_root E a n)) (va_runSN (As := [.ref (ad 4), .int (nI (a)), .int (nI (n))]) (rest := [.int (nI (pl)), .ref (ad 2)]) ⟨hx, hb, hml, hown, hw⟩ (c_H_ofRow l D cJ cI cG cZ (ad 4) E 6 (by omega) a n (by omega) (by omega)) (⟨tl_cN hw tl_m75 tl_m4 (tl_n7 hE.2) dd_H_ofRow rfl rfl ⟨Nat.le_of_ble_eq_true rfl, Nat.le_of_ble_eq_true rfl⟩, hw _ tl_m74, trivial⟩) (tl_preS hE (hP.sub [4] rfl)) rfl rfl hl.1 rfl (lv_room (Nat.le_of_ble_eq_true rfl)) d_T_addToProof_26 ⟨Nat.zero_le _, Nat.zero_le _⟩) ?_
    refine tl_last (a := pl) hx hb hE.1 hP (tl_DW hap) hS 2 0 rfl rfl (by omega) (by decide) d_T_addToProof_29 (fun H locs hP hS => ?_)
    have hP : va_P D tl_cl (tl_W cJ cI cG ad E nf T hn hs rt dn wm cr (vp_updL pf pl (tl_root E a n)) pl O ol r8) H := hP
    refine lv_aload_n hx hb d_T_addToProof_30 rfl (lv_at hl 0 rfl) ?_
    refine lv_dup hx hb d_T_addToProof_31 rfl ?_
    refine va_get (ci := 0) (v := .int (nI (pl))) (C := R_T) (T := F_T) (N := 5) hx hb hw iw_T hown hE.1 hP 0 rfl rfl 2 (by decide) (hw _ tl_m34) (fun _ h9 => h9) rfl d_T_addToProof_32 ?_
    refine lv_iconst (v := (nI (1))) hx hb d_T_addToProof_35 (by decide) ?_
    refine lv_iadd hx hb d_T_addToProof_36 ?_
    refine lv_topi (nm_r (e' := (nI (pl + 1))) (nI_add _ _) ?_)
    refine va_put (ci := 0) (v := .int (nI (pl + 1))) (ty := .int) (C := R_T) (T := F_T) (N := 5) hx hb hw iw_T ft_T ft_T_ok n_T hown hE.1 hP (tl_DW hap) hS 0 rfl rfl 2 (by decide) (hw _ tl_m34) (fun _ h9 => h9) rfl (by decide +kernel) rfl rfl (Nat.le_of_ble_eq_true rfl) d_T_addToProof_37 (fun H locs hP _ hS => ?_)
    have hP : va_P D tl_cl (tl_W cJ cI cG ad E nf T hn hs rt dn wm cr (vp_updL pf pl (tl_root E a n)) (pl + 1) O ol r8) H := hP
    exact W.vret hx hb hr (fun t9 ht9 _ => tl_endV hS (hP) ht9) hS.2.2 d_T_addToProof_40

set_option maxHeartbeats 4000000 in
set_option maxRecDepth 100000 in
theorem c_T_addPath (l : Launch) (D : va_G) (cJ cI cG cZ : ClassId) (ad : Nat → Nat) (E : Nat → Int64) (nf : Nat) (T : Nat → Nat → Int64) (hn hs : Nat → Int32) (rt : Nat → Int64) (dn : Bool) (wm cr : Int32) (O : Nat → Int64) (ol : Nat) (r8 : Nat → Int64) (hap : tl_ap ad 19) : ∀ d, d < 7 → ∀ (pf : Nat → Int64) (pl : Nat) (mm a n : Nat), n ≤ 2 ^ d → a + n ≤ 64 → mm < 2 ^ 30 → pl + (tl_path E mm a n).length ≤ 7 → Met l y_T_addPath (k_T_addPath :: tl_ws) { frames := d + 10, cells := 0, slots := 0, locals := 233 + 24 * d } (tl_Pc D cJ cI cG cZ [.ref (ad 0), .int (nI (mm)), .int (nI (a)), .int (nI (n))] (fun H => va_P D tl_cl (tl_W cJ cI cG ad E nf T hn hs rt dn wm cr pf pl O ol r8) H)) (tl_Qv (fun H => ∃ pf9 : Nat → Int64, tl_app pf pl (tl_path E mm a n) pf9 ∧ va_P D tl_cl (tl_W cJ cI cG ad E nf T hn hs rt dn wm cr pf9 (pl + (tl_path E mm a n).length) O ol r8) H) (tl_in ad 19)) 0 0 (tl_in ad 19) := by
  intro d
  induction d with
  | zero =>
    intro hd pf pl mm a n g0 g1 g2 g3
    have g0 : n ≤ 1 := g0
    refine Met.ofW (cc := b_T_addPath) (maxL := 5) (ret := none) (by decide) rfl ?_
    intro p e s m args below meth c s₁ B hml hv
    obtain ⟨rfl, hE, hP⟩ := hv
    have hx := B.exec
    have hb := B.bytes
    have hr := B.returns
    have hw : ∀ w ∈ tl_ws, w.before ([.ref (ad 0), .int (nI (mm)), .int (nI (a)), .int (nI (n))] : List Value).toArray s = true := fun w h => atoms_spec (ws := k_T_addPath :: tl_ws) B.pre w (List.mem_cons_of_mem _ h)
    have hown : s.vm.findClass R_T = some m.cls := findClass_of_methodNamed B.named
    have hlocks := B.notSynchronized
    have hl := lv_entry ([.ref (ad 0), .int (nI (mm)), .int (nI (a)), .int (nI (n))]) (n := 5) (Nat.le_of_ble_eq_true rfl)
    rw [lg_entry_eq]
    generalize (lg_sl ([.ref (ad 0), .int (nI (mm)), .int (nI (a)), .int (nI (n))]) ++ List.replicate (5 - (lg_sl ([.ref (ad 0), .int (nI (mm)), .int (nI (a)), .int (nI (n))])).length) Slot.unset).toArray = ls at hl ⊢
    have hl : lv_has ls 5 [(0, .ref (ad 0)), (1, .int (nI (mm))), (2, .int (nI (a))), (3, .int (nI (n)))] := hl
    have hP : va_P D tl_cl (tl_W cJ cI cG ad E nf T hn hs rt dn wm cr pf pl O ol r8) s.heap := hP
    have hS : va_S (tl_in ad 19) s.heap s.heap [] := va_S.rf
    refine lv_iload_n hx hb d_T_addPath_0 rfl (lv_at hl 3 rfl) ?_
    refine lv_iconst (v := (nI (1))) hx hb d_T_addPath_1 (by decide) ?_
    refine tl_cle (tgt := 11) (by omega) (by omega) hx hb d_T_addPath_2 (by decide) (fun h2 => ?_) (fun h2 => ?_)
    · -- 2 t
      exact W.vret hx hb hr (fun t9 ht9 _ => tl_endV hS (by show ∃ pf9, _; rw [tl_path_0 E mm a n (by omega)]; exact ⟨pf, tl_app_0, hP⟩) ht9) hS.2.2 d_T_addPath_11
    · -- 2 f
      exact absurd h2 (by omega)
  | succ d ih =>
    intro hd pf pl mm a n g0 g1 g2 g3
    refine Met.ofW (cc := b_T_addPath) (maxL := 5) (ret := none) (by decide) rfl ?_
    intro p e s m args below meth c s₁ B hml hv
    obtain ⟨rfl, hE, hP⟩ := hv
    have hx := B.exec
    have hb := B.bytes
    have hr := B.returns
    have hw : ∀ w ∈ tl_ws, w.before ([.ref (ad 0), .int (nI (mm)), .int (nI (a)), .int (nI (n))] : List Value).toArray s = true := fun w h => atoms_spec (ws := k_T_addPath :: tl_ws) B.pre w (List.mem_cons_of_mem _ h)
    have hown : s.vm.findClass R_T = some m.cls := findClass_of_methodNamed B.named
    have hlocks := B.notSynchronized
    have hl := lv_entry ([.ref (ad 0), .int (nI (mm)), .int (nI (a)), .int (nI (n))]) (n := 5) (Nat.le_of_ble_eq_true rfl)
    rw [lg_entry_eq]
    generalize (lg_sl ([.ref (ad 0), .int (nI (mm)), .int (nI (a)), .int (nI (n))]) ++ List.replicate (5 - (lg_sl ([.ref (ad 0), .int (nI (mm)), .int (nI (a)), .int (nI (n))])).length) Slot.unset).toArray = ls at hl ⊢
    have hl : lv_has ls 5 [(0, .ref (ad 0)), (1, .int (nI (mm))), (2, .int (nI (a))), (3, .int (nI (n)))] := hl
    have hP : va_P D tl_cl (tl_W cJ cI cG ad E nf T hn hs rt dn wm cr pf pl O ol r8) s.heap := hP
    have hS : va_S (tl_in ad 19) s.heap s.heap [] := va_S.rf
    refine lv_iload_n hx hb d_T_addPath_0 rfl (lv_at hl 3 rfl) ?_
    refine lv_iconst (v := (nI (1))) hx hb d_T_addPath_1 (by decide) ?_
    refine tl_cle (tgt := 11) (by omega) (by omega) hx hb d_T_addPath_2 (by decide) (fun h2 => ?_) (fun h2 => ?_)
    · -- 2 t
      exact W.vret hx hb hr (fun t9 ht9 _ => tl_endV hS (by show ∃ pf9, _; rw [tl_path_0 E mm a n (by omega)]; exact ⟨pf, tl_app_0, hP⟩) ht9) hS.2.2 d_T_addPath_11
    · -- 2 f
      refine lv_iload_n hx hb d_T_addPath_5 rfl (lv_at hl 3 rfl) ?_
      refine lv_bipush (v := (nI (64))) hx hb d_T_addPath_6 (by decide) ?_
      refine tl_cle (tgt := 12) (by omega) (by omega) hx hb d_T_addPath_8 (by decide) (fun h8 => ?_) (fun h8 => ?_)
      · -- 8 t
        have hk := tl_half_ok n (by omega) (by omega)
        have hk2 := tl_half_le d (by omega) n (by omega) g0 (by omega)
        refine lv_iload_n hx hb d_T_addPath_12 rfl (lv_at hl 3 rfl) ?_
        refine tl_goI (v := (nI (tl_half n))) (va_runSN (As := [.int (nI (n))]) (rest := []) ⟨hx, hb, hml, hown, hw⟩ (c_H_half l n (by omega)) (⟨tl_cN hw tl_m79 tl_m4 (tl_n11 hE.2) dd_H_half rfl rfl ⟨by show 0 + 1 ≤ (d + 1) + 10; omega, by show 8 + (2 + 11) + 0 ≤ 233 + 24 * (d + 1); omega⟩, hw _ tl_m78, trivial⟩) (tl_pre0) rfl rfl hl.1 rfl (lv_room (Nat.le_of_ble_eq_true rfl)) d_T_addPath_13 ⟨Nat.zero_le _, Nat.zero_le _⟩) ?_
        refine lv_istore (lv' := [(4, .int (nI (tl_half n))), (0, .ref (ad 0)), (1, .int (nI (mm))), (2, .int (nI (a))), (3, .int (nI (n)))]) hx hb d_T_addPath_16 hl (by decide) rfl (fun ls hl => ?_)
        refine lv_iload_n hx hb d_T_addPath_18 rfl (lv_at hl 2 rfl) ?_
        refine lv_iload hx hb d_T_addPath_19 (lv_at hl 0 rfl) ?_
        refine tl_cge (tgt := 47) (by omega) (by omega) hx hb d_T_addPath_21 (by decide) (fun h21 => ?_) (fun h21 => ?_)
        · -- 21 t
          rw [tl_path_un E mm a n (by omega) (by omega), if_neg (by omega), List.length_append] at g3
          have g3 : pl + ((tl_path E (mm - tl_half n) (a + tl_half n) (n - tl_half n)).length + 1) ≤ 7 := g3
          refine lv_aload_n hx hb d_T_addPath_47 rfl (lv_at hl 1 rfl) ?_
          refine lv_iload_n hx hb d_T_addPath_48 rfl (lv_at hl 2 rfl) ?_
          refine lv_iload hx hb d_T_addPath_49 (lv_at hl 0 rfl) ?_
          refine lv_isub hx hb d_T_addPath_51 ?_
          refine lv_topi (nm_r (e' := (nI (mm - (tl_half n)))) (pk_sub (by omega)) ?_)
          refine lv_iload_n hx hb d_T_addPath_52 rfl (lv_at hl 3 rfl) ?_
          refine lv_iload hx hb d_T_addPath_53 (lv_at hl 0 rfl) ?_
          refine lv_iadd hx hb d_T_addPath_55 ?_
          refine lv_topi (nm_r (e' := (nI (a + (tl_half n)))) (nI_add _ _) ?_)
          refine lv_iload_n hx hb d_T_addPath_56 rfl (lv_at hl 4 rfl) ?_
          refine lv_iload hx hb d_T_addPath_57 (lv_at hl 0 rfl) ?_
          refine lv_isub hx hb d_T_addPath_59 ?_
          refine lv_topi (nm_r (e' := (nI (n - (tl_half n)))) (pk_sub (by omega)) ?_)
          refine tl_doV (va_runV (As := [.int (nI (mm - (tl_half n))), .int (nI (a + (tl_half n))), .int (nI (n - (tl_half n)))]) (rest := []) ⟨hx, hb, hml, hown, hw⟩ (ih (by omega) pf pl (mm - (tl_half n)) (a + (tl_half n)) (n - (tl_half n)) (by omega) (by omega) (by omega) (by omega)) (⟨tl_cB hw tl_m147 tl_m1 tl_m145 dd_T_addPath rfl rfl ⟨by show d + 10 + 1 ≤ d + 1 + 10; omega, by show 8 + (5 + 11) + (233 + 24 * d) ≤ 233 + 24 * (d + 1); omega⟩, hw _ tl_m146, hw _ tl_m365⟩) (tl_preV hE hP (va_recv (q0 := 0) (ci := 0) (q := (R_T, F_T, 5)) hE.1 hP rfl rfl)) rfl rfl hl.1 rfl (lv_room (Nat.le_of_ble_eq_true rfl)) d_T_addPath_60 ⟨Nat.zero_le _, Nat.zero_le _⟩) hS (fun _ h => h) (fun H locs hX hS _ => ?_)
          obtain ⟨pf1, ha1, hP⟩ := hX
          have hP : va_P D tl_cl (tl_W cJ cI cG ad E nf T hn hs rt dn wm cr pf1 (pl + (tl_path E (mm - (tl_half n)) (a + (tl_half n)) (n - (tl_half n))).length) O ol r8) H := hP
          refine lv_aload_n hx hb d_T_addPath_63 rfl (lv_at hl 1 rfl) ?_
          refine lv_iload_n hx hb d_T_addPath_64 rfl (lv_at hl 3 rfl) ?_
          refine lv_iload hx hb d_T_addPath_65 (lv_at hl 0 rfl) ?_
          refine tl_doV (va_runV (As := [.int (nI (a)), .int (nI (tl_half n))]) (rest := []) ⟨hx, hb, hml, hown, hw⟩ (c_T_addToProof l D cJ cI cG cZ ad E nf T hn hs rt dn wm cr pf1 (pl + (tl_path E (mm - (tl_half n)) (a + (tl_half n)) (n - (tl_half n))).length) O ol r8 a (tl_half n) hap (by omega) (by omega)) (⟨tl_cB hw tl_m150 tl_m1 tl_m148 dd_T_addToProof rfl rfl ⟨by show 9 + 1 ≤ (d + 1) + 10; omega, by show 8 + (3 + 11) + 211 ≤ 233 + 24 * (d + 1); omega⟩, hw _ tl_m149, hw _ tl_m366⟩) (tl_preV hE hP (va_recv (q0 := 0) (ci := 0) (q := (R_T, F_T, 5)) hE.1 hP rfl rfl)) rfl rfl hl.1 rfl (lv_room (Nat.le_of_ble_eq_true rfl)) d_T_addPath_67 ⟨Nat.zero_le _, Nat.zero_le _⟩) hS (fun _ h => h) (fun H locs hP hS _ => ?_)
          have hP : va_P D tl_cl (tl_W cJ cI cG ad E nf T hn hs rt dn wm cr (vp_updL pf1 (pl + (tl_path E (mm - (tl_half n)) (a + (tl_half n)) (n - (tl_half n))).length) (tl_root E a (tl_half n))) ((pl + (tl_path E (mm - (tl_half n)) (a + (tl_half n)) (n - (tl_half n))).length) + 1) O ol r8) H := hP
          exact W.vret hx hb hr (fun t9 ht9 _ => tl_endV hS (by show ∃ pf9, _; rw [tl_path_un E mm a n (by omega) (by omega)]; first | (rw [if_pos h21, List.length_append]; exact ⟨_, tl_app_s ha1, hP⟩) | (rw [if_neg (by omega), List.length_append]; exact ⟨_, tl_app_s ha1, hP⟩)) ht9) hS.2.2 d_T_addPath_70
        · -- 21 f
          rw [tl_path_un E mm a n (by omega) (by omega), if_pos h21, List.length_append] at g3
          have g3 : pl + ((tl_path E mm a (tl_half n)).length + 1) ≤ 7 := g3
          refine lv_aload_n hx hb d_T_addPath_24 rfl (lv_at hl 1 rfl) ?_
          refine lv_iload_n hx hb d_T_addPath_25 rfl (lv_at hl 2 rfl) ?_
          refine lv_iload_n hx hb d_T_addPath_26 rfl (lv_at hl 3 rfl) ?_
          refine lv_iload hx hb d_T_addPath_27 (lv_at hl 0 rfl) ?_
          refine tl_doV (va_runV (As := [.int (nI (mm)), .int (nI (a)), .int (nI (tl_half n))]) (rest := []) ⟨hx, hb, hml, hown, hw⟩ (ih (by omega) pf pl mm a (tl_half n) (by omega) (by omega) (by omega) (by omega)) (⟨tl_cB hw tl_m147 tl_m1 tl_m145 dd_T_addPath rfl rfl ⟨by show d + 10 + 1 ≤ d + 1 + 10; omega, by show 8 + (5 + 11) + (233 + 24 * d) ≤ 233 + 24 * (d + 1); omega⟩, hw _ tl_m146, hw _ tl_m365⟩) (tl_preV hE hP (va_recv (q0 := 0) (ci := 0) (q := (R_T, F_T, 5)) hE.1 hP rfl rfl)) rfl rfl hl.1 rfl (lv_room (Nat.le_of_ble_eq_true rfl)) d_T_addPath_29 ⟨Nat.zero_le _, Nat.zero_le _⟩) hS (fun _ h => h) (fun H locs hX hS _ => ?_)
          obtain ⟨pf1, ha1, hP⟩ := hX
          have hP : va_P D tl_cl (tl_W cJ cI cG ad E nf T hn hs rt dn wm cr pf1 (pl + (tl_path E mm a (tl_half n)).length) O ol r8) H := hP
          refine lv_aload_n hx hb d_T_addPath_32 rfl (lv_at hl 1 rfl) ?_
          refine lv_iload_n hx hb d_T_addPath_33 rfl (lv_at hl 3 rfl) ?_
          refine lv_iload hx hb d_T_addPath_34 (lv_at hl 0 rfl) ?_
          refine lv_iadd hx hb d_T_addPath_36 ?_
          refine lv_topi (nm_r (e' := (nI (a + (tl_half n)))) (nI_add _ _) ?_)
          refine lv_iload_n hx hb d_T_addPath_37 rfl (lv_at hl 4 rfl) ?_
          refine lv_iload hx hb d_T_addPath_38 (lv_at hl 0 rfl) ?_
          refine lv_isub hx hb d_T_addPath_40 ?_
          refine lv_topi (nm_r (e' := (nI (n - (tl_half n)))) (pk_sub (by omega)) ?_)
          refine tl_doV (va_runV (As := [.int (nI (a + (tl_half n))), .int (nI (n - (tl_half n)))]) (rest := []) ⟨hx, hb, hml, hown, hw⟩ (c_T_addToProof l D cJ cI cG cZ ad E nf T hn hs rt dn wm cr pf1 (pl + (tl_path E mm a (tl_half n)).length) O ol r8 (a + (tl_half n)) (n - (tl_half n)) hap (by omega) (by omega)) (⟨tl_cB hw tl_m150 tl_m1 tl_m148 dd_T_addToProof rfl rfl ⟨by show 9 + 1 ≤ (d + 1) + 10; omega, by show 8 + (3 + 11) + 211 ≤ 233 + 24 * (d + 1); omega⟩, hw _ tl_m149, hw _ tl_m366⟩) (tl_preV hE hP (va_recv (q0 := 0) (ci := 0) (q := (R_T, F_T, 5)) hE.1 hP rfl rfl)) rfl rfl hl.1 rfl (lv_room (Nat.le_of_ble_eq_true rfl)) d_T_addPath_41 ⟨Nat.zero_le _, Nat.zero_le _⟩) hS (fun _ h => h) (fun H locs hP hS _ => ?_)
          have hP : va_P D tl_cl (tl_W cJ cI cG ad E nf T hn hs rt dn wm cr (vp_updL pf1 (pl + (tl_path E mm a (tl_half n)).length) (tl_root E (a + (tl_half n)) (n - (tl_half n)))) ((pl + (tl_path E mm a (tl_half n)).length) + 1) O ol r8) H := hP
          refine lv_goto (tgt := 70) hx hb d_T_addPath_44 (by decide) ?_
          exact W.vret hx hb hr (fun t9 ht9 _ => tl_endV hS (by show ∃ pf9, _; rw [tl_path_un E mm a n (by omega) (by omega)]; first | (rw [if_pos h21, List.length_append]; exact ⟨_, tl_app_s ha1, hP⟩) | (rw [if_neg (by omega), List.length_append]; exact ⟨_, tl_app_s ha1, hP⟩)) ht9) hS.2.2 d_T_addPath_70
      · -- 8 f
        exact absurd h8 (by omega)

set_option maxHeartbeats 4000000 in
set_option maxRecDepth 100000 in
theorem c_T_addBridge (l : Launch) (D : va_G) (cJ cI cG cZ : ClassId) (ad : Nat → Nat) (E : Nat → Int64) (nf : Nat) (T : Nat → Nat → Int64) (hn hs : Nat → Int32) (rt : Nat → Int64) (dn : Bool) (wm cr : Int32) (O : Nat → Int64) (ol : Nat) (r8 : Nat → Int64) (hap : tl_ap ad 19) : ∀ d, d < 7 → ∀ (pf : Nat → Int64) (pl : Nat) (mm a n : Nat) (b : Bool), n ≤ 2 ^ d → a + n ≤ 64 → 1 ≤ mm → mm ≤ n → pl + (tl_bridge E mm a n b).length ≤ 7 → Met l y_T_addBridge (k_T_addBridge :: tl_ws) { frames := d + 10, cells := 0, slots := 0, locals := 233 + 25 * d } (tl_Pc D cJ cI cG cZ [.ref (ad 0), .int (nI (mm)), .int (nI (a)), .int (nI (n)), .int (tl_bi (b))] (fun H => va_P D tl_cl (tl_W cJ cI cG ad E nf T hn hs rt dn wm cr pf pl O ol r8) H)) (tl_Qv (fun H => ∃ pf9 : Nat → Int64, tl_app pf pl (tl_bridge E mm a n b) pf9 ∧ va_P D tl_cl (tl_W cJ cI cG ad E nf T hn hs rt dn wm cr pf9 (pl + (tl_bridge E mm a n b).length) O ol r8) H) (tl_in ad 19)) 0 0 (tl_in ad 19) := by
  intro d
  induction d with
  | zero =>
    intro hd pf pl mm a n b g0 g1 g2 g3 g4
    have g0 : n ≤ 1 := g0
    refine Met.ofW (cc := b_T_addBridge) (maxL := 6) (ret := none) (by decide) rfl ?_
    intro p e s m args below meth c s₁ B hml hv
    obtain ⟨rfl, hE, hP⟩ := hv
    have hx := B.exec
    have hb := B.bytes
    have hr := B.returns
    have hw : ∀ w ∈ tl_ws, w.before ([.ref (ad 0), .int (nI (mm)), .int (nI (a)), .int (nI (n)), .int (tl_bi (b))] : List Value).toArray s = true := fun w h => atoms_spec (ws := k_T_addBridge :: tl_ws) B.pre w (List.mem_cons_of_mem _ h)
    have hown : s.vm.findClass R_T = some m.cls := findClass_of_methodNamed B.named
    have hlocks := B.notSynchronized
    have hl := lv_entry ([.ref (ad 0), .int (nI (mm)), .int (nI (a)), .int (nI (n)), .int (tl_bi (b))]) (n := 6) (Nat.le_of_ble_eq_true rfl)
    rw [lg_entry_eq]
    generalize (lg_sl ([.ref (ad 0), .int (nI (mm)), .int (nI (a)), .int (nI (n)), .int (tl_bi (b))]) ++ List.replicate (6 - (lg_sl ([.ref (ad 0), .int (nI (mm)), .int (nI (a)), .int (nI (n)), .int (tl_bi (b))])).length) Slot.unset).toArray = ls at hl ⊢
    have hl : lv_has ls 6 [(0, .ref (ad 0)), (1, .int (nI (mm))), (2, .int (nI (a))), (3, .int (nI (n))), (4, .int (tl_bi (b)))] := hl
    have hP : va_P D tl_cl (tl_W cJ cI cG ad E nf T hn hs rt dn wm cr pf pl O ol r8) s.heap := hP
    have hS : va_S (tl_in ad 19) s.heap s.heap [] := va_S.rf
    refine lv_iload_n hx hb d_T_addBridge_0 rfl (lv_at hl 1 rfl) ?_
    refine lv_iconst (v := (nI (1))) hx hb d_T_addBridge_1 (by decide) ?_
    refine tl_clt (tgt := 16) (by omega) (by omega) hx hb d_T_addBridge_2 (by decide) (fun h2 => ?_) (fun h2 => ?_)
    · -- 2 t
      exact absurd h2 (by omega)
    · -- 2 f
      refine lv_iload_n hx hb d_T_addBridge_5 rfl (lv_at hl 1 rfl) ?_
      refine lv_iload_n hx hb d_T_addBridge_6 rfl (lv_at hl 3 rfl) ?_
      refine tl_cgt (tgt := 16) (by omega) (by omega) hx hb d_T_addBridge_7 (by decide) (fun h7 => ?_) (fun h7 => ?_)
      · -- 7 t
        exact absurd h7 (by omega)
      · -- 7 f
        refine lv_iload_n hx hb d_T_addBridge_10 rfl (lv_at hl 3 rfl) ?_
        refine lv_bipush (v := (nI (64))) hx hb d_T_addBridge_11 (by decide) ?_
        refine tl_cle (tgt := 17) (by omega) (by omega) hx hb d_T_addBridge_13 (by decide) (fun h13 => ?_) (fun h13 => ?_)
        · -- 13 t
          refine lv_iload_n hx hb d_T_addBridge_17 rfl (lv_at hl 1 rfl) ?_
          refine lv_iload_n hx hb d_T_addBridge_18 rfl (lv_at hl 3 rfl) ?_
          refine tl_cne (tgt := 34) (by omega) (by omega) hx hb d_T_addBridge_19 (by decide) (fun h19 => ?_) (fun h19 => ?_)
          · -- 19 t
            exact absurd h19 (by omega)
          · -- 19 f
            refine lv_iload hx hb d_T_addBridge_22 (lv_at hl 4 rfl) ?_
            refine tl_bne (tgt := 33) hx hb d_T_addBridge_24 (by decide) (fun h24 => ?_) (fun h24 => ?_)
            · -- 24 t
              exact W.vret hx hb hr (fun t9 ht9 _ => tl_endV hS (by show ∃ pf9, _; rw [h19, tl_bridge_0, h24]; first | exact ⟨pf, tl_app_0, hP⟩ | exact ⟨_, tl_app_s (xs := []) tl_app_0, hP⟩) ht9) hS.2.2 d_T_addBridge_33
            · -- 24 f
              rw [h19, tl_bridge_0, h24] at g4
              have g4 : pl + 1 ≤ 7 := g4
              refine lv_aload_n hx hb d_T_addBridge_27 rfl (lv_at hl 0 rfl) ?_
              refine lv_iload_n hx hb d_T_addBridge_28 rfl (lv_at hl 2 rfl) ?_
              refine lv_iload_n hx hb d_T_addBridge_29 rfl (lv_at hl 3 rfl) ?_
              refine tl_doV (va_runV (As := [.int (nI (a)), .int (nI (n))]) (rest := []) ⟨hx, hb, hml, hown, hw⟩ (c_T_addToProof l D cJ cI cG cZ ad E nf T hn hs rt dn wm cr pf pl O ol r8 a n hap (by omega) (by omega)) (⟨tl_cB hw tl_m150 tl_m1 tl_m148 dd_T_addToProof rfl rfl ⟨by show 9 + 1 ≤ 0 + 10; omega, by show 8 + (3 + 11) + 211 ≤ 233 + 25 * 0; omega⟩, hw _ tl_m149, hw _ tl_m366⟩) (tl_preV hE hP (va_recv (q0 := 0) (ci := 0) (q := (R_T, F_T, 5)) hE.1 hP rfl rfl)) rfl rfl hl.1 rfl (lv_room (Nat.le_of_ble_eq_true rfl)) d_T_addBridge_30 ⟨Nat.zero_le _, Nat.zero_le _⟩) hS (fun _ h => h) (fun H locs hP hS _ => ?_)
              have hP : va_P D tl_cl (tl_W cJ cI cG ad E nf T hn hs rt dn wm cr (vp_updL pf pl (tl_root E a n)) (pl + 1) O ol r8) H := hP
              exact W.vret hx hb hr (fun t9 ht9 _ => tl_endV hS (by show ∃ pf9, _; rw [h19, tl_bridge_0, h24]; first | exact ⟨pf, tl_app_0, hP⟩ | exact ⟨_, tl_app_s (xs := []) tl_app_0, hP⟩) ht9) hS.2.2 d_T_addBridge_33
        · -- 13 f
          exact absurd h13 (by omega)
  | succ d ih =>
    intro hd pf pl mm a n b g0 g1 g2 g3 g4
    refine Met.ofW (cc := b_T_addBridge) (maxL := 6) (ret := none) (by decide) rfl ?_
    intro p e s m args below meth c s₁ B hml hv
    obtain ⟨rfl, hE, hP⟩ := hv
    have hx := B.exec
    have hb := B.bytes
    have hr := B.returns
    have hw : ∀ w ∈ tl_ws, w.before ([.ref (ad 0), .int (nI (mm)), .int (nI (a)), .int (nI (n)), .int (tl_bi (b))] : List Value).toArray s = true := fun w h => atoms_spec (ws := k_T_addBridge :: tl_ws) B.pre w (List.mem_cons_of_mem _ h)
    have hown : s.vm.findClass R_T = some m.cls := findClass_of_methodNamed B.named
    have hlocks := B.notSynchronized
    have hl := lv_entry ([.ref (ad 0), .int (nI (mm)), .int (nI (a)), .int (nI (n)), .int (tl_bi (b))]) (n := 6) (Nat.le_of_ble_eq_true rfl)
    rw [lg_entry_eq]
    generalize (lg_sl ([.ref (ad 0), .int (nI (mm)), .int (nI (a)), .int (nI (n)), .int (tl_bi (b))]) ++ List.replicate (6 - (lg_sl ([.ref (ad 0), .int (nI (mm)), .int (nI (a)), .int (nI (n)), .int (tl_bi (b))])).length) Slot.unset).toArray = ls at hl ⊢
    have hl : lv_has ls 6 [(0, .ref (ad 0)), (1, .int (nI (mm))), (2, .int (nI (a))), (3, .int (nI (n))), (4, .int (tl_bi (b)))] := hl
    have hP : va_P D tl_cl (tl_W cJ cI cG ad E nf T hn hs rt dn wm cr pf pl O ol r8) s.heap := hP
    have hS : va_S (tl_in ad 19) s.heap s.heap [] := va_S.rf
    refine lv_iload_n hx hb d_T_addBridge_0 rfl (lv_at hl 1 rfl) ?_
    refine lv_iconst (v := (nI (1))) hx hb d_T_addBridge_1 (by decide) ?_
    refine tl_clt (tgt := 16) (by omega) (by omega) hx hb d_T_addBridge_2 (by decide) (fun h2 => ?_) (fun h2 => ?_)
    · -- 2 t
      exact absurd h2 (by omega)
    · -- 2 f
      refine lv_iload_n hx hb d_T_addBridge_5 rfl (lv_at hl 1 rfl) ?_
      refine lv_iload_n hx hb d_T_addBridge_6 rfl (lv_at hl 3 rfl) ?_
      refine tl_cgt (tgt := 16) (by omega) (by omega) hx hb d_T_addBridge_7 (by decide) (fun h7 => ?_) (fun h7 => ?_)
      · -- 7 t
        exact absurd h7 (by omega)
      · -- 7 f
        refine lv_iload_n hx hb d_T_addBridge_10 rfl (lv_at hl 3 rfl) ?_
        refine lv_bipush (v := (nI (64))) hx hb d_T_addBridge_11 (by decide) ?_
        refine tl_cle (tgt := 17) (by omega) (by omega) hx hb d_T_addBridge_13 (by decide) (fun h13 => ?_) (fun h13 => ?_)
        · -- 13 t
          refine lv_iload_n hx hb d_T_addBridge_17 rfl (lv_at hl 1 rfl) ?_
          refine lv_iload_n hx hb d_T_addBridge_18 rfl (lv_at hl 3 rfl) ?_
          refine tl_cne (tgt := 34) (by omega) (by omega) hx hb d_T_addBridge_19 (by decide) (fun h19 => ?_) (fun h19 => ?_)
          · -- 19 t
            have hk := tl_half_ok n (by omega) (by omega)
            have hk2 := tl_half_le d (by omega) n (by omega) g0 (by omega)
            refine lv_iload_n hx hb d_T_addBridge_34 rfl (lv_at hl 3 rfl) ?_
            refine tl_goI (v := (nI (tl_half n))) (va_runSN (As := [.int (nI (n))]) (rest := []) ⟨hx, hb, hml, hown, hw⟩ (c_H_half l n (by omega)) (⟨tl_cN hw tl_m79 tl_m4 (tl_n11 hE.2) dd_H_half rfl rfl ⟨by show 0 + 1 ≤ (d + 1) + 10; omega, by show 8 + (2 + 11) + 0 ≤ 233 + 25 * (d + 1); omega⟩, hw _ tl_m78, trivial⟩) (tl_pre0) rfl rfl hl.1 rfl (lv_room (Nat.le_of_ble_eq_true rfl)) d_T_addBridge_35 ⟨Nat.zero_le _, Nat.zero_le _⟩) ?_
            refine lv_istore (lv' := [(5, .int (nI (tl_half n))), (0, .ref (ad 0)), (1, .int (nI (mm))), (2, .int (nI (a))), (3, .int (nI (n))), (4, .int (tl_bi (b)))]) hx hb d_T_addBridge_38 hl (by decide) rfl (fun ls hl => ?_)
            refine lv_iload_n hx hb d_T_addBridge_40 rfl (lv_at hl 2 rfl) ?_
            refine lv_iload hx hb d_T_addBridge_41 (lv_at hl 0 rfl) ?_
            refine tl_cgt (tgt := 71) (by omega) (by omega) hx hb d_T_addBridge_43 (by decide) (fun h43 => ?_) (fun h43 => ?_)
            · -- 43 t
              rw [tl_bridge_un E mm a n b (by omega) (by omega) (by omega), if_neg (by omega), List.length_append] at g4
              have g4 : pl + ((tl_bridge E (mm - tl_half n) (a + tl_half n) (n - tl_half n) false).length + 1) ≤ 7 := g4
              refine lv_aload_n hx hb d_T_addBridge_71 rfl (lv_at hl 1 rfl) ?_
              refine lv_iload_n hx hb d_T_addBridge_72 rfl (lv_at hl 2 rfl) ?_
              refine lv_iload hx hb d_T_addBridge_73 (lv_at hl 0 rfl) ?_
              refine lv_isub hx hb d_T_addBridge_75 ?_
              refine lv_topi (nm_r (e' := (nI (mm - (tl_half n)))) (pk_sub (by omega)) ?_)
              refine lv_iload_n hx hb d_T_addBridge_76 rfl (lv_at hl 3 rfl) ?_
              refine lv_iload hx hb d_T_addBridge_77 (lv_at hl 0 rfl) ?_
              refine lv_iadd hx hb d_T_addBridge_79 ?_
              refine lv_topi (nm_r (e' := (nI (a + (tl_half n)))) (nI_add _ _) ?_)
              refine lv_iload_n hx hb d_T_addBridge_80 rfl (lv_at hl 4 rfl) ?_
              refine lv_iload hx hb d_T_addBridge_81 (lv_at hl 0 rfl) ?_
              refine lv_isub hx hb d_T_addBridge_83 ?_
              refine lv_topi (nm_r (e' := (nI (n - (tl_half n)))) (pk_sub (by omega)) ?_)
              refine lv_iconst (v := (nI (0))) hx hb d_T_addBridge_84 (by decide) ?_
              refine tl_doV (va_runV (As := [.int (nI (mm - (tl_half n))), .int (nI (a + (tl_half n))), .int (nI (n - (tl_half n))), .int (nI (0))]) (rest := []) ⟨hx, hb, hml, hown, hw⟩ (ih (by omega) pf pl (mm - (tl_half n)) (a + (tl_half n)) (n - (tl_half n)) false (by omega) (by omega) (by omega) (by omega) (by omega)) (⟨tl_cB hw tl_m157 tl_m1 tl_m155 dd_T_addBridge rfl rfl ⟨by show d + 10 + 1 ≤ d + 1 + 10; omega, by show 8 + (6 + 11) + (233 + 25 * d) ≤ 233 + 25 * (d + 1); omega⟩, hw _ tl_m156, hw _ tl_m367⟩) (tl_preV hE hP (va_recv (q0 := 0) (ci := 0) (q := (R_T, F_T, 5)) hE.1 hP rfl rfl)) rfl rfl hl.1 rfl (lv_room (Nat.le_of_ble_eq_true rfl)) d_T_addBridge_85 ⟨Nat.zero_le _, Nat.zero_le _⟩) hS (fun _ h => h) (fun H locs hX hS _ => ?_)
              obtain ⟨pf1, ha1, hP⟩ := hX
              have hP : va_P D tl_cl (tl_W cJ cI cG ad E nf T hn hs rt dn wm cr pf1 (pl + (tl_bridge E (mm - (tl_half n)) (a + (tl_half n)) (n - (tl_half n)) false).length) O ol r8) H := hP
              refine lv_aload_n hx hb d_T_addBridge_88 rfl (lv_at hl 1 rfl) ?_
              refine lv_iload_n hx hb d_T_addBridge_89 rfl (lv_at hl 3 rfl) ?_
              refine lv_iload hx hb d_T_addBridge_90 (lv_at hl 0 rfl) ?_
              refine tl_doV (va_runV (As := [.int (nI (a)), .int (nI (tl_half n))]) (rest := []) ⟨hx, hb, hml, hown, hw⟩ (c_T_addToProof l D cJ cI cG cZ ad E nf T hn hs rt dn wm cr pf1 (pl + (tl_bridge E (mm - (tl_half n)) (a + (tl_half n)) (n - (tl_half n)) false).length) O ol r8 a (tl_half n) hap (by omega) (by omega)) (⟨tl_cB hw tl_m150 tl_m1 tl_m148 dd_T_addToProof rfl rfl ⟨by show 9 + 1 ≤ (d + 1) + 10; omega, by show 8 + (3 + 11) + 211 ≤ 233 + 25 * (d + 1); omega⟩, hw _ tl_m149, hw _ tl_m366⟩) (tl_preV hE hP (va_recv (q0 := 0) (ci := 0) (q := (R_T, F_T, 5)) hE.1 hP rfl rfl)) rfl rfl hl.1 rfl (lv_room (Nat.le_of_ble_eq_true rfl)) d_T_addBridge_92 ⟨Nat.zero_le _, Nat.zero_le _⟩) hS (fun _ h => h) (fun H locs hP hS _ => ?_)
              have hP : va_P D tl_cl (tl_W cJ cI cG ad E nf T hn hs rt dn wm cr (vp_updL pf1 (pl + (tl_bridge E (mm - (tl_half n)) (a + (tl_half n)) (n - (tl_half n)) false).length) (tl_root E a (tl_half n))) ((pl + (tl_bridge E (mm - (tl_half n)) (a + (tl_half n)) (n - (tl_half n)) false).length) + 1) O ol r8) H := hP
              exact W.vret hx hb hr (fun t9 ht9 _ => tl_endV hS (by show ∃ pf9, _; rw [tl_bridge_un E mm a n b (by omega) (by omega) (by omega)]; first | (rw [if_pos h43, List.length_append]; exact ⟨_, tl_app_s ha1, hP⟩) | (rw [if_neg (by omega), List.length_append]; exact ⟨_, tl_app_s ha1, hP⟩)) ht9) hS.2.2 d_T_addBridge_95
            · -- 43 f
              rw [tl_bridge_un E mm a n b (by omega) (by omega) (by omega), if_pos h43, List.length_append] at g4
              have g4 : pl + ((tl_bridge E mm a (tl_half n) b).length + 1) ≤ 7 := g4
              refine lv_aload_n hx hb d_T_addBridge_46 rfl (lv_at hl 1 rfl) ?_
              refine lv_iload_n hx hb d_T_addBridge_47 rfl (lv_at hl 2 rfl) ?_
              refine lv_iload_n hx hb d_T_addBridge_48 rfl (lv_at hl 3 rfl) ?_
              refine lv_iload hx hb d_T_addBridge_49 (lv_at hl 0 rfl) ?_
              refine lv_iload hx hb d_T_addBridge_51 (lv_at hl 5 rfl) ?_
              refine tl_doV (va_runV (As := [.int (nI (mm)), .int (nI (a)), .int (nI (tl_half n)), .int (tl_bi (b))]) (rest := []) ⟨hx, hb, hml, hown, hw⟩ (ih (by omega) pf pl mm a (tl_half n) b (by omega) (by omega) (by omega) (by omega) (by omega)) (⟨tl_cB hw tl_m157 tl_m1 tl_m155 dd_T_addBridge rfl rfl ⟨by show d + 10 + 1 ≤ d + 1 + 10; omega, by show 8 + (6 + 11) + (233 + 25 * d) ≤ 233 + 25 * (d + 1); omega⟩, hw _ tl_m156, hw _ tl_m367⟩) (tl_preV hE hP (va_recv (q0 := 0) (ci := 0) (q := (R_T, F_T, 5)) hE.1 hP rfl rfl)) rfl rfl hl.1 rfl (lv_room (Nat.le_of_ble_eq_true rfl)) d_T_addBridge_53 ⟨Nat.zero_le _, Nat.zero_le _⟩) hS (fun _ h => h) (fun H locs hX hS _ => ?_)
              obtain ⟨pf1, ha1, hP⟩ := hX
              have hP : va_P D tl_cl (tl_W cJ cI cG ad E nf T hn hs rt dn wm cr pf1 (pl + (tl_bridge E mm a (tl_half n) b).length) O ol r8) H := hP
              refine lv_aload_n hx hb d_T_addBridge_56 rfl (lv_at hl 1 rfl) ?_
              refine lv_iload_n hx hb d_T_addBridge_57 rfl (lv_at hl 3 rfl) ?_
              refine lv_iload hx hb d_T_addBridge_58 (lv_at hl 0 rfl) ?_
              refine lv_iadd hx hb d_T_addBridge_60 ?_
              refine lv_topi (nm_r (e' := (nI (a + (tl_half n)))) (nI_add _ _) ?_)
              refine lv_iload_n hx hb d_T_addBridge_61 rfl (lv_at hl 4 rfl) ?_
              refine lv_iload hx hb d_T_addBridge_62 (lv_at hl 0 rfl) ?_
              refine lv_isub hx hb d_T_addBridge_64 ?_
              refine lv_topi (nm_r (e' := (nI (n - (tl_half n)))) (pk_sub (by omega)) ?_)
              refine tl_doV (va_runV (As := [.int (nI (a + (tl_half n))), .int (nI (n - (tl_half n)))]) (rest := []) ⟨hx, hb, hml, hown, hw⟩ (c_T_addToProof l D cJ cI cG cZ ad E nf T hn hs rt dn wm cr pf1 (pl + (tl_bridge E mm a (tl_half n) b).length) O ol r8 (a + (tl_half n)) (n - (tl_half n)) hap (by omega) (by omega)) (⟨tl_cB hw tl_m150 tl_m1 tl_m148 dd_T_addToProof rfl rfl ⟨by show 9 + 1 ≤ (d + 1) + 10; omega, by show 8 + (3 + 11) + 211 ≤ 233 + 25 * (d + 1); omega⟩, hw _ tl_m149, hw _ tl_m366⟩) (tl_preV hE hP (va_recv (q0 := 0) (ci := 0) (q := (R_T, F_T, 5)) hE.1 hP rfl rfl)) rfl rfl hl.1 rfl (lv_room (Nat.le_of_ble_eq_true rfl)) d_T_addBridge_65 ⟨Nat.zero_le _, Nat.zero_le _⟩) hS (fun _ h => h) (fun H locs hP hS _ => ?_)
              have hP : va_P D tl_cl (tl_W cJ cI cG ad E nf T hn hs rt dn wm cr (vp_updL pf1 (pl + (tl_bridge E mm a (tl_half n) b).length) (tl_root E (a + (tl_half n)) (n - (tl_half n)))) ((pl + (tl_bridge E mm a (tl_half n) b).length) + 1) O ol r8) H := hP
              refine lv_goto (tgt := 95) hx hb d_T_addBridge_68 (by decide) ?_
              exact W.vret hx hb hr (fun t9 ht9 _ => tl_endV hS (by show ∃ pf9, _; rw [tl_bridge_un E mm a n b (by omega) (by omega) (by omega)]; first | (rw [if_pos h43, List.length_append]; exact ⟨_, tl_app_s ha1, hP⟩) | (rw [if_neg (by omega), List.length_append]; exact ⟨_, tl_app_s ha1, hP⟩)) ht9) hS.2.2 d_T_addBridge_95
          · -- 19 f
            refine lv_iload hx hb d_T_addBridge_22 (lv_at hl 4 rfl) ?_
            refine tl_bne (tgt := 33) hx hb d_T_addBridge_24 (by decide) (fun h24 => ?_) (fun h24 => ?_)
            · -- 24 t
              exact W.vret hx hb hr (fun t9 ht9 _ => tl_endV hS (by show ∃ pf9, _; rw [h19, tl_bridge_0, h24]; first | exact ⟨pf, tl_app_0, hP⟩ | exact ⟨_, tl_app_s (xs := []) tl_app_0, hP⟩) ht9) hS.2.2 d_T_addBridge_33
            · -- 24 f
              rw [h19, tl_bridge_0, h24] at g4
              have g4 : pl + 1 ≤ 7 := g4
              refine lv_aload_n hx hb d_T_addBridge_27 rfl (lv_at hl 0 rfl) ?_
              refine lv_iload_n hx hb d_T_addBridge_28 rfl (lv_at hl 2 rfl) ?_
              refine lv_iload_n hx hb d_T_addBridge_29 rfl (lv_at hl 3 rfl) ?_
              refine tl_doV (va_runV (As := [.int (nI (a)), .int (nI (n))]) (rest := []) ⟨hx, hb, hml, hown, hw⟩ (c_T_addToProof l D cJ cI cG cZ ad E nf T hn hs rt dn wm cr pf pl O ol r8 a n hap (by omega) (by omega)) (⟨tl_cB hw tl_m150 tl_m1 tl_m148 dd_T_addToProof rfl rfl ⟨by show 9 + 1 ≤ (d + 1) + 10; omega, by show 8 + (3 + 11) + 211 ≤ 233 + 25 * (d + 1); omega⟩, hw _ tl_m149, hw _ tl_m366⟩) (tl_preV hE hP (va_recv (q0 := 0) (ci := 0) (q := (R_T, F_T, 5)) hE.1 hP rfl rfl)) rfl rfl hl.1 rfl (lv_room (Nat.le_of_ble_eq_true rfl)) d_T_addBridge_30 ⟨Nat.zero_le _, Nat.zero_le _⟩) hS (fun _ h => h) (fun H locs hP hS _ => ?_)
              have hP : va_P D tl_cl (tl_W cJ cI cG ad E nf T hn hs rt dn wm cr (vp_updL pf pl (tl_root E a n)) (pl + 1) O ol r8) H := hP
              exact W.vret hx hb hr (fun t9 ht9 _ => tl_endV hS (by show ∃ pf9, _; rw [h19, tl_bridge_0, h24]; first | exact ⟨pf, tl_app_0, hP⟩ | exact ⟨_, tl_app_s (xs := []) tl_app_0, hP⟩) ht9) hS.2.2 d_T_addBridge_33
        · -- 13 f
          exact absurd h13 (by omega)
