set_option maxHeartbeats 4000000 in
set_option maxRecDepth 100000 in
theorem c_H_ofRow (l : Launch) (D : va_G) (cJ cI cG cZ : ClassId) (en : Nat) (E : Nat → Int64) : ∀ d, d < 7 → ∀ a n, n ≤ 2 ^ d → a + n ≤ 64 → Met l y_H_ofRow (k_H_ofRow :: tl_ws) { frames := d + 2, cells := 0, slots := 0, locals := 50 + 23 * d } (tl_Pc D cJ cI cG cZ [.ref (en), .int (nI (a)), .int (nI (n))] (fun H => va_P D tl_cl [(en, .inl (cJ, 64, .inr (.inl E)))] H)) (vp_Sl (fun r => r = tl_root E a n)) 0 0 (fun _ => False) := by
  intro d
  induction d with
  | zero =>
    intro hd a n hn2 hn
    have hn2 : n ≤ 1 := hn2
    refine Met.ofW (cc := b_H_ofRow) (maxL := 4) (ret := (some .long)) (by decide) rfl ?_
    intro p e s m args below meth c s₁ B hml hv
    obtain ⟨rfl, hE, hP⟩ := hv
    have hx := B.exec
    have hb := B.bytes
    have hr := B.returns
    have hw : ∀ w ∈ tl_ws, w.before ([.ref (en), .int (nI (a)), .int (nI (n))] : List Value).toArray s = true := fun w h => atoms_spec (ws := k_H_ofRow :: tl_ws) B.pre w (List.mem_cons_of_mem _ h)
    have hown : s.vm.findClass R_H = some m.cls := findClass_of_methodNamed B.named
    have hlocks := B.notSynchronized
    have hl := lv_entry ([.ref (en), .int (nI (a)), .int (nI (n))]) (n := 4) (Nat.le_of_ble_eq_true rfl)
    rw [lg_entry_eq]
    generalize (lg_sl ([.ref (en), .int (nI (a)), .int (nI (n))]) ++ List.replicate (4 - (lg_sl ([.ref (en), .int (nI (a)), .int (nI (n))])).length) Slot.unset).toArray = ls at hl ⊢
    have hl : lv_has ls 4 [(0, .ref (en)), (1, .int (nI (a))), (2, .int (nI (n)))] := hl
    have hP : va_P D tl_cl [(en, .inl (cJ, 64, .inr (.inl E)))] s.heap := hP
    refine lv_iload_n hx hb d_H_ofRow_0 rfl (lv_at hl 2 rfl) ?_
    refine lv_iconst (v := (nI (1))) hx hb d_H_ofRow_1 (by decide) ?_
    refine tl_clt (tgt := 23) (by omega) (by omega) hx hb d_H_ofRow_2 (by decide) (fun h2 => ?_) (fun h2 => ?_)
    · -- 2 t
      refine lv_lconst (v := 0) hx hb d_H_ofRow_23 (by decide) ?_
      exact W.lret hx hb hr (fun t9 ht9 _ => ⟨(0), rfl, (by rw [show n = 0 by omega, tl_root_0]), ht9⟩) (fun q h => by cases h) d_H_ofRow_24
    · -- 2 f
      refine lv_iload_n hx hb d_H_ofRow_5 rfl (lv_at hl 2 rfl) ?_
      refine lv_bipush (v := (nI (64))) hx hb d_H_ofRow_6 (by decide) ?_
      refine tl_cgt (tgt := 23) (by omega) (by omega) hx hb d_H_ofRow_8 (by decide) (fun h8 => ?_) (fun h8 => ?_)
      · -- 8 t
        exact absurd h8 (by omega)
      · -- 8 f
        refine lv_iload_n hx hb d_H_ofRow_11 rfl (lv_at hl 1 rfl) ?_
        refine tl_zlt (tgt := 23) (by omega) hx hb d_H_ofRow_12 (by decide) ?_
        refine lv_iload_n hx hb d_H_ofRow_15 rfl (lv_at hl 1 rfl) ?_
        refine lv_aload_n hx hb d_H_ofRow_16 rfl (lv_at hl 0 rfl) ?_
        refine va_alen (v := nI 64) hx hb hE.1 hP 0 0 rfl rfl rfl d_H_ofRow_17 ?_
        refine lv_iload_n hx hb d_H_ofRow_18 rfl (lv_at hl 2 rfl) ?_
        refine lv_isub hx hb d_H_ofRow_19 ?_
        refine lv_topi (nm_r (e' := (nI (64 - n))) (pk_sub (by omega)) ?_)
        refine tl_cle (tgt := 25) (by omega) (by omega) hx hb d_H_ofRow_20 (by decide) (fun h20 => ?_) (fun h20 => ?_)
        · -- 20 t
          refine lv_iload_n hx hb d_H_ofRow_25 rfl (lv_at hl 2 rfl) ?_
          refine lv_iconst (v := (nI (1))) hx hb d_H_ofRow_26 (by decide) ?_
          refine tl_cne (tgt := 37) (by omega) (by omega) hx hb d_H_ofRow_27 (by decide) (fun h27 => ?_) (fun h27 => ?_)
          · -- 27 t
            exact absurd h27 (by omega)
          · -- 27 f
            refine lv_aload_n hx hb d_H_ofRow_30 rfl (lv_at hl 0 rfl) ?_
            refine lv_iload_n hx hb d_H_ofRow_31 rfl (lv_at hl 1 rfl) ?_
            refine tl_lald (a := a) hx hb hE.1 hP 0 0 rfl rfl (by omega) (by decide) d_H_ofRow_32 ?_
            refine tl_goL (v := (tl_leaf (E a))) (va_runS (As := [.long (E a)]) (rest := []) ⟨hx, hb, hml, hown, hw⟩ (c_H_ofLeaf l (E a)) (⟨tl_cB hw tl_m64 tl_m4 tl_m76 dd_H_ofLeaf rfl rfl ⟨by show 1 + 1 ≤ 0 + 2; omega, by show 8 + (2 + 11) + 27 ≤ 50 + 23 * 0; omega⟩, hw _ tl_m63⟩) (tl_pre0) rfl rfl hl.1 rfl (lv_room (Nat.le_of_ble_eq_true rfl)) d_H_ofRow_33 ⟨Nat.zero_le _, Nat.zero_le _⟩) ?_
            exact W.lret hx hb hr (fun t9 ht9 _ => ⟨(tl_leaf (E a)), rfl, (by rw [h27, tl_root_1]), ht9⟩) (fun q h => by cases h) d_H_ofRow_36
        · -- 20 f
          exact absurd h20 (by omega)
  | succ d ih =>
    intro hd a n hn2 hn
    refine Met.ofW (cc := b_H_ofRow) (maxL := 4) (ret := (some .long)) (by decide) rfl ?_
    intro p e s m args below meth c s₁ B hml hv
    obtain ⟨rfl, hE, hP⟩ := hv
    have hx := B.exec
    have hb := B.bytes
    have hr := B.returns
    have hw : ∀ w ∈ tl_ws, w.before ([.ref (en), .int (nI (a)), .int (nI (n))] : List Value).toArray s = true := fun w h => atoms_spec (ws := k_H_ofRow :: tl_ws) B.pre w (List.mem_cons_of_mem _ h)
    have hown : s.vm.findClass R_H = some m.cls := findClass_of_methodNamed B.named
    have hlocks := B.notSynchronized
    have hl := lv_entry ([.ref (en), .int (nI (a)), .int (nI (n))]) (n := 4) (Nat.le_of_ble_eq_true rfl)
    rw [lg_entry_eq]
    generalize (lg_sl ([.ref (en), .int (nI (a)), .int (nI (n))]) ++ List.replicate (4 - (lg_sl ([.ref (en), .int (nI (a)), .int (nI (n))])).length) Slot.unset).toArray = ls at hl ⊢
    have hl : lv_has ls 4 [(0, .ref (en)), (1, .int (nI (a))), (2, .int (nI (n)))] := hl
    have hP : va_P D tl_cl [(en, .inl (cJ, 64, .inr (.inl E)))] s.heap := hP
    refine lv_iload_n hx hb d_H_ofRow_0 rfl (lv_at hl 2 rfl) ?_
    refine lv_iconst (v := (nI (1))) hx hb d_H_ofRow_1 (by decide) ?_
    refine tl_clt (tgt := 23) (by omega) (by omega) hx hb d_H_ofRow_2 (by decide) (fun h2 => ?_) (fun h2 => ?_)
    · -- 2 t
      refine lv_lconst (v := 0) hx hb d_H_ofRow_23 (by decide) ?_
      exact W.lret hx hb hr (fun t9 ht9 _ => ⟨(0), rfl, (by rw [show n = 0 by omega, tl_root_0]), ht9⟩) (fun q h => by cases h) d_H_ofRow_24
    · -- 2 f
      refine lv_iload_n hx hb d_H_ofRow_5 rfl (lv_at hl 2 rfl) ?_
      refine lv_bipush (v := (nI (64))) hx hb d_H_ofRow_6 (by decide) ?_
      refine tl_cgt (tgt := 23) (by omega) (by omega) hx hb d_H_ofRow_8 (by decide) (fun h8 => ?_) (fun h8 => ?_)
      · -- 8 t
        exact absurd h8 (by omega)
      · -- 8 f
        refine lv_iload_n hx hb d_H_ofRow_11 rfl (lv_at hl 1 rfl) ?_
        refine tl_zlt (tgt := 23) (by omega) hx hb d_H_ofRow_12 (by decide) ?_
        refine lv_iload_n hx hb d_H_ofRow_15 rfl (lv_at hl 1 rfl) ?_
        refine lv_aload_n hx hb d_H_ofRow_16 rfl (lv_at hl 0 rfl) ?_
        refine va_alen (v := nI 64) hx hb hE.1 hP 0 0 rfl rfl rfl d_H_ofRow_17 ?_
        refine lv_iload_n hx hb d_H_ofRow_18 rfl (lv_at hl 2 rfl) ?_
        refine lv_isub hx hb d_H_ofRow_19 ?_
        refine lv_topi (nm_r (e' := (nI (64 - n))) (pk_sub (by omega)) ?_)
        refine tl_cle (tgt := 25) (by omega) (by omega) hx hb d_H_ofRow_20 (by decide) (fun h20 => ?_) (fun h20 => ?_)
        · -- 20 t
          refine lv_iload_n hx hb d_H_ofRow_25 rfl (lv_at hl 2 rfl) ?_
          refine lv_iconst (v := (nI (1))) hx hb d_H_ofRow_26 (by decide) ?_
          refine tl_cne (tgt := 37) (by omega) (by omega) hx hb d_H_ofRow_27 (by decide) (fun h27 => ?_) (fun h27 => ?_)
          · -- 27 t
            have hk := tl_half_ok n (by omega) (by omega)
            have hk2 := tl_half_le d (by omega) n (by omega) hn2 (by omega)
            refine lv_iload_n hx hb d_H_ofRow_37 rfl (lv_at hl 2 rfl) ?_
            refine tl_goI (v := (nI (tl_half n))) (va_runS (As := [.int (nI (n))]) (rest := []) ⟨hx, hb, hml, hown, hw⟩ (c_H_half l n (by omega)) (⟨tl_cB hw tl_m79 tl_m4 tl_m77 dd_H_half rfl rfl ⟨by show 0 + 1 ≤ (d + 1) + 2; omega, by show 8 + (2 + 11) + 0 ≤ 50 + 23 * (d + 1); omega⟩, hw _ tl_m78⟩) (tl_pre0) rfl rfl hl.1 rfl (lv_room (Nat.le_of_ble_eq_true rfl)) d_H_ofRow_38 ⟨Nat.zero_le _, Nat.zero_le _⟩) ?_
            refine lv_istore_n (lv' := [(3, .int (nI (tl_half n))), (0, .ref (en)), (1, .int (nI (a))), (2, .int (nI (n)))]) hx hb d_H_ofRow_41 rfl hl (by decide) rfl (fun ls hl => ?_)
            refine lv_aload_n hx hb d_H_ofRow_42 rfl (lv_at hl 1 rfl) ?_
            refine lv_iload_n hx hb d_H_ofRow_43 rfl (lv_at hl 2 rfl) ?_
            refine lv_iload_n hx hb d_H_ofRow_44 rfl (lv_at hl 0 rfl) ?_
            refine tl_goL (v := (tl_root E a (tl_half n))) (va_runS (As := [.ref (en), .int (nI (a)), .int (nI (tl_half n))]) (rest := []) ⟨hx, hb, hml, hown, hw⟩ (ih (by omega) a (tl_half n) (by omega) (by omega)) (⟨tl_cB hw tl_m75 tl_m4 tl_m80 dd_H_ofRow rfl rfl ⟨by show d + 2 + 1 ≤ d + 1 + 2; omega, by show 8 + (4 + 11) + (50 + 23 * d) ≤ 50 + 23 * (d + 1); omega⟩, hw _ tl_m74⟩) (tl_preS hE hP) rfl rfl hl.1 rfl (lv_room (Nat.le_of_ble_eq_true rfl)) d_H_ofRow_45 ⟨Nat.zero_le _, Nat.zero_le _⟩) ?_
            refine lv_aload_n hx hb d_H_ofRow_48 rfl (lv_at hl 1 rfl) ?_
            refine lv_iload_n hx hb d_H_ofRow_49 rfl (lv_at hl 2 rfl) ?_
            refine lv_iload_n hx hb d_H_ofRow_50 rfl (lv_at hl 0 rfl) ?_
            refine lv_iadd hx hb d_H_ofRow_51 ?_
            refine lv_topi (nm_r (e' := (nI (a + (tl_half n)))) (nI_add _ _) ?_)
            refine lv_iload_n hx hb d_H_ofRow_52 rfl (lv_at hl 3 rfl) ?_
            refine lv_iload_n hx hb d_H_ofRow_53 rfl (lv_at hl 0 rfl) ?_
            refine lv_isub hx hb d_H_ofRow_54 ?_
            refine lv_topi (nm_r (e' := (nI (n - (tl_half n)))) (pk_sub (by omega)) ?_)
            refine tl_goL (v := (tl_root E (a + (tl_half n)) (n - (tl_half n)))) (va_runS (As := [.ref (en), .int (nI (a + (tl_half n))), .int (nI (n - (tl_half n)))]) (rest := [.long (tl_root E a (tl_half n))]) ⟨hx, hb, hml, hown, hw⟩ (ih (by omega) (a + (tl_half n)) (n - (tl_half n)) (by omega) (by omega)) (⟨tl_cB hw tl_m75 tl_m4 tl_m80 dd_H_ofRow rfl rfl ⟨by show d + 2 + 1 ≤ d + 1 + 2; omega, by show 8 + (4 + 11) + (50 + 23 * d) ≤ 50 + 23 * (d + 1); omega⟩, hw _ tl_m74⟩) (tl_preS hE hP) rfl rfl hl.1 rfl (lv_room (Nat.le_of_ble_eq_true rfl)) d_H_ofRow_55 ⟨Nat.zero_le _, Nat.zero_le _⟩) ?_
            refine tl_goL (v := (tl_node (tl_root E a (tl_half n)) (tl_root E (a + (tl_half n)) (n - (tl_half n))))) (va_runS (As := [.long (tl_root E a (tl_half n)), .long (tl_root E (a + (tl_half n)) (n - (tl_half n)))]) (rest := []) ⟨hx, hb, hml, hown, hw⟩ (c_H_ofNode l (tl_root E a (tl_half n)) (tl_root E (a + (tl_half n)) (n - (tl_half n)))) (⟨tl_cB hw tl_m83 tl_m4 tl_m81 dd_H_ofNode rfl rfl ⟨by show 1 + 1 ≤ (d + 1) + 2; omega, by show 8 + (4 + 11) + 27 ≤ 50 + 23 * (d + 1); omega⟩, hw _ tl_m82⟩) (tl_pre0) rfl rfl hl.1 rfl (lv_room (Nat.le_of_ble_eq_true rfl)) d_H_ofRow_58 ⟨Nat.zero_le _, Nat.zero_le _⟩) ?_
            exact W.lret hx hb hr (fun t9 ht9 _ => ⟨(tl_node (tl_root E a (tl_half n)) (tl_root E (a + (tl_half n)) (n - (tl_half n)))), rfl, (tl_root_un E a n (by omega) (by omega)).symm, ht9⟩) (fun q h => by cases h) d_H_ofRow_61
          · -- 27 f
            refine lv_aload_n hx hb d_H_ofRow_30 rfl (lv_at hl 0 rfl) ?_
            refine lv_iload_n hx hb d_H_ofRow_31 rfl (lv_at hl 1 rfl) ?_
            refine tl_lald (a := a) hx hb hE.1 hP 0 0 rfl rfl (by omega) (by decide) d_H_ofRow_32 ?_
            refine tl_goL (v := (tl_leaf (E a))) (va_runS (As := [.long (E a)]) (rest := []) ⟨hx, hb, hml, hown, hw⟩ (c_H_ofLeaf l (E a)) (⟨tl_cB hw tl_m64 tl_m4 tl_m76 dd_H_ofLeaf rfl rfl ⟨by show 1 + 1 ≤ (d + 1) + 2; omega, by show 8 + (2 + 11) + 27 ≤ 50 + 23 * (d + 1); omega⟩, hw _ tl_m63⟩) (tl_pre0) rfl rfl hl.1 rfl (lv_room (Nat.le_of_ble_eq_true rfl)) d_H_ofRow_33 ⟨Nat.zero_le _, Nat.zero_le _⟩) ?_
            exact W.lret hx hb hr (fun t9 ht9 _ => ⟨(tl_leaf (E a)), rfl, (by rw [h27, tl_root_1]), ht9⟩) (fun q h => by cases h) d_H_ofRow_36
        · -- 20 f
          exact absurd h20 (by omega)
