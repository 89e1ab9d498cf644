set_option maxHeartbeats 4000000 in
set_option maxRecDepth 100000 in
theorem c_H_mix (l : Launch) (a b : Int64) : Met l y_H_mix (k_H_mix :: tl_ws) { frames := 0, cells := 0, slots := 0, locals := 0 } (va_Pc [.long (a), .long (b)] (fun _ => True)) (vp_Sl (fun r => r = tl_mix a b)) 0 0 (fun _ => False) := by
  refine Met.ofW (cc := b_H_mix) (maxL := 8) (ret := (some .long)) (by decide) rfl ?_
  intro p e s m args below meth c s₁ B hml hv
  obtain ⟨rfl, -⟩ := hv
  have hx := B.exec
  have hb := B.bytes
  have hr := B.returns
  have hw : ∀ w ∈ tl_ws, w.before ([.long (a), .long (b)] : List Value).toArray s = true := fun w h => atoms_spec (ws := k_H_mix :: tl_ws) B.pre w (List.mem_cons_of_mem _ h)
  have hown : s.vm.findClass R_H = some m.cls := findClass_of_methodNamed B.named
  have hlocks := B.notSynchronized
  have hl := lv_entry ([.long (a), .long (b)]) (n := 8) (Nat.le_of_ble_eq_true rfl)
  rw [lg_entry_eq]
  generalize (lg_sl ([.long (a), .long (b)]) ++ List.replicate (8 - (lg_sl ([.long (a), .long (b)])).length) Slot.unset).toArray = ls at hl ⊢
  have hl : lv_has ls 8 [(0, .long (a)), (2, .long (b))] := hl
  refine lv_lload_n hx hb d_H_mix_0 rfl (lv_at hl 0 rfl) ?_
  refine lv_lload_n hx hb d_H_mix_1 rfl (lv_at hl 0 rfl) ?_
  refine lv_bipush (v := (nI (29))) hx hb d_H_mix_2 (by decide) ?_
  refine lv_lushr (v := (tl_ush (a) 29)) hx hb d_H_mix_4 rfl ?_
  refine lv_lxor hx hb d_H_mix_5 ?_
  refine lv_ldc2 (v := 5871781006564002453) hx hb hown (hw _ tl_m69) d_H_mix_6 ?_
  refine lv_lmul hx hb d_H_mix_9 ?_
  refine lv_lload_n hx hb d_H_mix_10 rfl (lv_at hl 1 rfl) ?_
  refine lv_ladd hx hb d_H_mix_11 ?_
  refine lv_lstore (lv' := [(4, .long ((((a) ^^^ (tl_ush (a) 29)) * (5871781006564002453)) + (b))), (0, .long (a)), (2, .long (b))]) hx hb d_H_mix_12 hl (by decide) rfl (fun ls hl => ?_)
  refine lv_lload hx hb d_H_mix_14 (lv_at hl 0 rfl) ?_
  refine lv_lload hx hb d_H_mix_16 (lv_at hl 0 rfl) ?_
  refine lv_bipush (v := (nI (32))) hx hb d_H_mix_18 (by decide) ?_
  refine lv_lushr (v := (tl_ush ((((a) ^^^ (tl_ush (a) 29)) * (5871781006564002453)) + (b)) 32)) hx hb d_H_mix_20 rfl ?_
  refine lv_lxor hx hb d_H_mix_21 ?_
  refine lv_ldc2 (v := 1181783497276652981) hx hb hown (hw _ tl_m70) d_H_mix_22 ?_
  refine lv_lmul hx hb d_H_mix_25 ?_
  refine lv_lstore (lv' := [(6, .long ((((((a) ^^^ (tl_ush (a) 29)) * (5871781006564002453)) + (b)) ^^^ (tl_ush ((((a) ^^^ (tl_ush (a) 29)) * (5871781006564002453)) + (b)) 32)) * (1181783497276652981))), (4, .long ((((a) ^^^ (tl_ush (a) 29)) * (5871781006564002453)) + (b))), (0, .long (a)), (2, .long (b))]) hx hb d_H_mix_26 hl (by decide) rfl (fun ls hl => ?_)
  refine lv_lload hx hb d_H_mix_28 (lv_at hl 0 rfl) ?_
  refine lv_lload hx hb d_H_mix_30 (lv_at hl 0 rfl) ?_
  refine lv_bipush (v := (nI (31))) hx hb d_H_mix_32 (by decide) ?_
  refine lv_lushr (v := (tl_ush ((((((a) ^^^ (tl_ush (a) 29)) * (5871781006564002453)) + (b)) ^^^ (tl_ush ((((a) ^^^ (tl_ush (a) 29)) * (5871781006564002453)) + (b)) 32)) * (1181783497276652981)) 31)) hx hb d_H_mix_34 rfl ?_
  refine lv_lxor hx hb d_H_mix_35 ?_
  exact W.lret hx hb hr (fun t9 ht9 _ => ⟨(((((((a) ^^^ (tl_ush (a) 29)) * (5871781006564002453)) + (b)) ^^^ (tl_ush ((((a) ^^^ (tl_ush (a) 29)) * (5871781006564002453)) + (b)) 32)) * (1181783497276652981)) ^^^ (tl_ush ((((((a) ^^^ (tl_ush (a) 29)) * (5871781006564002453)) + (b)) ^^^ (tl_ush ((((a) ^^^ (tl_ush (a) 29)) * (5871781006564002453)) + (b)) 32)) * (1181783497276652981)) 31)), rfl, rfl, ht9⟩) (fun q h => by cases h) d_H_mix_36

set_option maxHeartbeats 4000000 in
set_option maxRecDepth 100000 in
theorem c_H_ofLeaf (l : Launch) (a : Int64) : Met l y_H_ofLeaf (k_H_ofLeaf :: tl_ws) { frames := 1, cells := 0, slots := 0, locals := 27 } (va_Pc [.long (a)] (fun _ => True)) (vp_Sl (fun r => r = tl_leaf a)) 0 0 (fun _ => False) := by
  refine Met.ofW (cc := b_H_ofLeaf) (maxL := 2) (ret := (some .long)) (by decide) rfl ?_
  intro p e s m args below meth c s₁ B hml hv
  obtain ⟨rfl, -⟩ := hv
  have hx := B.exec
  have hb := B.bytes
  have hr := B.returns
  have hw : ∀ w ∈ tl_ws, w.before ([.long (a)] : List Value).toArray s = true := fun w h => atoms_spec (ws := k_H_ofLeaf :: tl_ws) B.pre w (List.mem_cons_of_mem _ h)
  have hown : s.vm.findClass R_H = some m.cls := findClass_of_methodNamed B.named
  have hlocks := B.notSynchronized
  have hl := lv_entry ([.long (a)]) (n := 2) (Nat.le_of_ble_eq_true rfl)
  rw [lg_entry_eq]
  generalize (lg_sl ([.long (a)]) ++ List.replicate (2 - (lg_sl ([.long (a)])).length) Slot.unset).toArray = ls at hl ⊢
  have hl : lv_has ls 2 [(0, .long (a))] := hl
  refine lv_ldc2 (v := 7) hx hb hown (hw _ tl_m65) d_H_ofLeaf_0 ?_
  refine lv_lload_n hx hb d_H_ofLeaf_3 rfl (lv_at hl 0 rfl) ?_
  refine tl_goL (v := (tl_mix (7) (a))) (va_runS (As := [.long (7), .long (a)]) (rest := []) ⟨hx, hb, hml, hown, hw⟩ (c_H_mix l (7) (a)) (⟨tl_cB hw tl_m68 tl_m4 tl_m66 dd_H_mix rfl rfl ⟨Nat.le_of_ble_eq_true rfl, Nat.le_of_ble_eq_true rfl⟩, hw _ tl_m67⟩) (tl_pre0) rfl rfl hl.1 rfl (lv_room (Nat.le_of_ble_eq_true rfl)) d_H_ofLeaf_4 ⟨Nat.zero_le _, Nat.zero_le _⟩) ?_
  refine lv_lconst (v := 1) hx hb d_H_ofLeaf_7 (by decide) ?_
  refine tl_goL (v := (tl_mix (tl_mix (7) (a)) (1))) (va_runS (As := [.long (tl_mix (7) (a)), .long (1)]) (rest := []) ⟨hx, hb, hml, hown, hw⟩ (c_H_mix l (tl_mix (7) (a)) (1)) (⟨tl_cB hw tl_m68 tl_m4 tl_m66 dd_H_mix rfl rfl ⟨Nat.le_of_ble_eq_true rfl, Nat.le_of_ble_eq_true rfl⟩, hw _ tl_m67⟩) (tl_pre0) rfl rfl hl.1 rfl (lv_room (Nat.le_of_ble_eq_true rfl)) d_H_ofLeaf_8 ⟨Nat.zero_le _, Nat.zero_le _⟩) ?_
  exact W.lret hx hb hr (fun t9 ht9 _ => ⟨(tl_mix (tl_mix (7) (a)) (1)), rfl, rfl, ht9⟩) (fun q h => by cases h) d_H_ofLeaf_11

set_option maxHeartbeats 4000000 in
set_option maxRecDepth 100000 in
theorem c_H_ofNode (l : Launch) (a b : Int64) : Met l y_H_ofNode (k_H_ofNode :: tl_ws) { frames := 1, cells := 0, slots := 0, locals := 27 } (va_Pc [.long (a), .long (b)] (fun _ => True)) (vp_Sl (fun r => r = tl_node a b)) 0 0 (fun _ => False) := by
  refine Met.ofW (cc := b_H_ofNode) (maxL := 4) (ret := (some .long)) (by decide) rfl ?_
  intro p e s m args below meth c s₁ B hml hv
  obtain ⟨rfl, -⟩ := hv
  have hx := B.exec
  have hb := B.bytes
  have hr := B.returns
  have hw : ∀ w ∈ tl_ws, w.before ([.long (a), .long (b)] : List Value).toArray s = true := fun w h => atoms_spec (ws := k_H_ofNode :: tl_ws) B.pre w (List.mem_cons_of_mem _ h)
  have hown : s.vm.findClass R_H = some m.cls := findClass_of_methodNamed B.named
  have hlocks := B.notSynchronized
  have hl := lv_entry ([.long (a), .long (b)]) (n := 4) (Nat.le_of_ble_eq_true rfl)
  rw [lg_entry_eq]
  generalize (lg_sl ([.long (a), .long (b)]) ++ List.replicate (4 - (lg_sl ([.long (a), .long (b)])).length) Slot.unset).toArray = ls at hl ⊢
  have hl : lv_has ls 4 [(0, .long (a)), (2, .long (b))] := hl
  refine lv_lload_n hx hb d_H_ofNode_0 rfl (lv_at hl 0 rfl) ?_
  refine lv_lload_n hx hb d_H_ofNode_1 rfl (lv_at hl 1 rfl) ?_
  refine tl_goL (v := (tl_mix (a) (b))) (va_runS (As := [.long (a), .long (b)]) (rest := []) ⟨hx, hb, hml, hown, hw⟩ (c_H_mix l (a) (b)) (⟨tl_cB hw tl_m68 tl_m4 tl_m66 dd_H_mix rfl rfl ⟨Nat.le_of_ble_eq_true rfl, Nat.le_of_ble_eq_true rfl⟩, hw _ tl_m67⟩) (tl_pre0) rfl rfl hl.1 rfl (lv_room (Nat.le_of_ble_eq_true rfl)) d_H_ofNode_2 ⟨Nat.zero_le _, Nat.zero_le _⟩) ?_
  refine lv_ldc2 (v := 2) hx hb hown (hw _ tl_m84) d_H_ofNode_5 ?_
  refine tl_goL (v := (tl_mix (tl_mix (a) (b)) (2))) (va_runS (As := [.long (tl_mix (a) (b)), .long (2)]) (rest := []) ⟨hx, hb, hml, hown, hw⟩ (c_H_mix l (tl_mix (a) (b)) (2)) (⟨tl_cB hw tl_m68 tl_m4 tl_m66 dd_H_mix rfl rfl ⟨Nat.le_of_ble_eq_true rfl, Nat.le_of_ble_eq_true rfl⟩, hw _ tl_m67⟩) (tl_pre0) rfl rfl hl.1 rfl (lv_room (Nat.le_of_ble_eq_true rfl)) d_H_ofNode_8 ⟨Nat.zero_le _, Nat.zero_le _⟩) ?_
  exact W.lret hx hb hr (fun t9 ht9 _ => ⟨(tl_mix (tl_mix (a) (b)) (2)), rfl, rfl, ht9⟩) (fun q h => by cases h) d_H_ofNode_11

set_option maxHeartbeats 4000000 in
set_option maxRecDepth 100000 in
theorem c_M_mix (l : Launch) (a b : Int64) : Met l y_M_mix (k_M_mix :: tl_ws) { frames := 0, cells := 0, slots := 0, locals := 0 } (va_Pc [.long (a), .long (b)] (fun _ => True)) (vp_Sl (fun r => r = tl_mix a b)) 0 0 (fun _ => False) := by
  refine Met.ofW (cc := b_M_mix) (maxL := 8) (ret := (some .long)) (by decide) rfl ?_
  intro p e s m args below meth c s₁ B hml hv
  obtain ⟨rfl, -⟩ := hv
  have hx := B.exec
  have hb := B.bytes
  have hr := B.returns
  have hw : ∀ w ∈ tl_ws, w.before ([.long (a), .long (b)] : List Value).toArray s = true := fun w h => atoms_spec (ws := k_M_mix :: tl_ws) B.pre w (List.mem_cons_of_mem _ h)
  have hown : s.vm.findClass R_M = some m.cls := findClass_of_methodNamed B.named
  have hlocks := B.notSynchronized
  have hl := lv_entry ([.long (a), .long (b)]) (n := 8) (Nat.le_of_ble_eq_true rfl)
  rw [lg_entry_eq]
  generalize (lg_sl ([.long (a), .long (b)]) ++ List.replicate (8 - (lg_sl ([.long (a), .long (b)])).length) Slot.unset).toArray = ls at hl ⊢
  have hl : lv_has ls 8 [(0, .long (a)), (2, .long (b))] := hl
  refine lv_lload_n hx hb d_M_mix_0 rfl (lv_at hl 0 rfl) ?_
  refine lv_lload_n hx hb d_M_mix_1 rfl (lv_at hl 0 rfl) ?_
  refine lv_bipush (v := (nI (29))) hx hb d_M_mix_2 (by decide) ?_
  refine lv_lushr (v := (tl_ush (a) 29)) hx hb d_M_mix_4 rfl ?_
  refine lv_lxor hx hb d_M_mix_5 ?_
  refine lv_ldc2 (v := 5871781006564002453) hx hb hown (hw _ tl_m249) d_M_mix_6 ?_
  refine lv_lmul hx hb d_M_mix_9 ?_
  refine lv_lload_n hx hb d_M_mix_10 rfl (lv_at hl 1 rfl) ?_
  refine lv_ladd hx hb d_M_mix_11 ?_
  refine lv_lstore (lv' := [(4, .long ((((a) ^^^ (tl_ush (a) 29)) * (5871781006564002453)) + (b))), (0, .long (a)), (2, .long (b))]) hx hb d_M_mix_12 hl (by decide) rfl (fun ls hl => ?_)
  refine lv_lload hx hb d_M_mix_14 (lv_at hl 0 rfl) ?_
  refine lv_lload hx hb d_M_mix_16 (lv_at hl 0 rfl) ?_
  refine lv_bipush (v := (nI (32))) hx hb d_M_mix_18 (by decide) ?_
  refine lv_lushr (v := (tl_ush ((((a) ^^^ (tl_ush (a) 29)) * (5871781006564002453)) + (b)) 32)) hx hb d_M_mix_20 rfl ?_
  refine lv_lxor hx hb d_M_mix_21 ?_
  refine lv_ldc2 (v := 1181783497276652981) hx hb hown (hw _ tl_m250) d_M_mix_22 ?_
  refine lv_lmul hx hb d_M_mix_25 ?_
  refine lv_lstore (lv' := [(6, .long ((((((a) ^^^ (tl_ush (a) 29)) * (5871781006564002453)) + (b)) ^^^ (tl_ush ((((a) ^^^ (tl_ush (a) 29)) * (5871781006564002453)) + (b)) 32)) * (1181783497276652981))), (4, .long ((((a) ^^^ (tl_ush (a) 29)) * (5871781006564002453)) + (b))), (0, .long (a)), (2, .long (b))]) hx hb d_M_mix_26 hl (by decide) rfl (fun ls hl => ?_)
  refine lv_lload hx hb d_M_mix_28 (lv_at hl 0 rfl) ?_
  refine lv_lload hx hb d_M_mix_30 (lv_at hl 0 rfl) ?_
  refine lv_bipush (v := (nI (31))) hx hb d_M_mix_32 (by decide) ?_
  refine lv_lushr (v := (tl_ush ((((((a) ^^^ (tl_ush (a) 29)) * (5871781006564002453)) + (b)) ^^^ (tl_ush ((((a) ^^^ (tl_ush (a) 29)) * (5871781006564002453)) + (b)) 32)) * (1181783497276652981)) 31)) hx hb d_M_mix_34 rfl ?_
  refine lv_lxor hx hb d_M_mix_35 ?_
  exact W.lret hx hb hr (fun t9 ht9 _ => ⟨(((((((a) ^^^ (tl_ush (a) 29)) * (5871781006564002453)) + (b)) ^^^ (tl_ush ((((a) ^^^ (tl_ush (a) 29)) * (5871781006564002453)) + (b)) 32)) * (1181783497276652981)) ^^^ (tl_ush ((((((a) ^^^ (tl_ush (a) 29)) * (5871781006564002453)) + (b)) ^^^ (tl_ush ((((a) ^^^ (tl_ush (a) 29)) * (5871781006564002453)) + (b)) 32)) * (1181783497276652981)) 31)), rfl, rfl, ht9⟩) (fun q h => by cases h) d_M_mix_36

set_option maxHeartbeats 4000000 in
set_option maxRecDepth 100000 in
theorem c_M_leaf (l : Launch) (a : Int64) : Met l y_M_leaf (k_M_leaf :: tl_ws) { frames := 1, cells := 0, slots := 0, locals := 27 } (va_Pc [.long (a)] (fun _ => True)) (vp_Sl (fun r => r = tl_leaf a)) 0 0 (fun _ => False) := by
  refine Met.ofW (cc := b_M_leaf) (maxL := 2) (ret := (some .long)) (by decide) rfl ?_
  intro p e s m args below meth c s₁ B hml hv
  obtain ⟨rfl, -⟩ := hv
  have hx := B.exec
  have hb := B.bytes
  have hr := B.returns
  have hw : ∀ w ∈ tl_ws, w.before ([.long (a)] : List Value).toArray s = true := fun w h => atoms_spec (ws := k_M_leaf :: tl_ws) B.pre w (List.mem_cons_of_mem _ h)
  have hown : s.vm.findClass R_M = some m.cls := findClass_of_methodNamed B.named
  have hlocks := B.notSynchronized
  have hl := lv_entry ([.long (a)]) (n := 2) (Nat.le_of_ble_eq_true rfl)
  rw [lg_entry_eq]
  generalize (lg_sl ([.long (a)]) ++ List.replicate (2 - (lg_sl ([.long (a)])).length) Slot.unset).toArray = ls at hl ⊢
  have hl : lv_has ls 2 [(0, .long (a))] := hl
  refine lv_ldc2 (v := 7) hx hb hown (hw _ tl_m245) d_M_leaf_0 ?_
  refine lv_lload_n hx hb d_M_leaf_3 rfl (lv_at hl 0 rfl) ?_
  refine tl_goL (v := (tl_mix (7) (a))) (va_runS (As := [.long (7), .long (a)]) (rest := []) ⟨hx, hb, hml, hown, hw⟩ (c_M_mix l (7) (a)) (⟨tl_cB hw tl_m248 tl_m3 tl_m246 dd_M_mix rfl rfl ⟨Nat.le_of_ble_eq_true rfl, Nat.le_of_ble_eq_true rfl⟩, hw _ tl_m247⟩) (tl_pre0) rfl rfl hl.1 rfl (lv_room (Nat.le_of_ble_eq_true rfl)) d_M_leaf_4 ⟨Nat.zero_le _, Nat.zero_le _⟩) ?_
  refine lv_lconst (v := 1) hx hb d_M_leaf_7 (by decide) ?_
  refine tl_goL (v := (tl_mix (tl_mix (7) (a)) (1))) (va_runS (As := [.long (tl_mix (7) (a)), .long (1)]) (rest := []) ⟨hx, hb, hml, hown, hw⟩ (c_M_mix l (tl_mix (7) (a)) (1)) (⟨tl_cB hw tl_m248 tl_m3 tl_m246 dd_M_mix rfl rfl ⟨Nat.le_of_ble_eq_true rfl, Nat.le_of_ble_eq_true rfl⟩, hw _ tl_m247⟩) (tl_pre0) rfl rfl hl.1 rfl (lv_room (Nat.le_of_ble_eq_true rfl)) d_M_leaf_8 ⟨Nat.zero_le _, Nat.zero_le _⟩) ?_
  exact W.lret hx hb hr (fun t9 ht9 _ => ⟨(tl_mix (tl_mix (7) (a)) (1)), rfl, rfl, ht9⟩) (fun q h => by cases h) d_M_leaf_11

set_option maxHeartbeats 4000000 in
set_option maxRecDepth 100000 in
theorem c_M_node (l : Launch) (a b : Int64) : Met l y_M_node (k_M_node :: tl_ws) { frames := 1, cells := 0, slots := 0, locals := 27 } (va_Pc [.long (a), .long (b)] (fun _ => True)) (vp_Sl (fun r => r = tl_node a b)) 0 0 (fun _ => False) := by
  refine Met.ofW (cc := b_M_node) (maxL := 4) (ret := (some .long)) (by decide) rfl ?_
  intro p e s m args below meth c s₁ B hml hv
  obtain ⟨rfl, -⟩ := hv
  have hx := B.exec
  have hb := B.bytes
  have hr := B.returns
  have hw : ∀ w ∈ tl_ws, w.before ([.long (a), .long (b)] : List Value).toArray s = true := fun w h => atoms_spec (ws := k_M_node :: tl_ws) B.pre w (List.mem_cons_of_mem _ h)
  have hown : s.vm.findClass R_M = some m.cls := findClass_of_methodNamed B.named
  have hlocks := B.notSynchronized
  have hl := lv_entry ([.long (a), .long (b)]) (n := 4) (Nat.le_of_ble_eq_true rfl)
  rw [lg_entry_eq]
  generalize (lg_sl ([.long (a), .long (b)]) ++ List.replicate (4 - (lg_sl ([.long (a), .long (b)])).length) Slot.unset).toArray = ls at hl ⊢
  have hl : lv_has ls 4 [(0, .long (a)), (2, .long (b))] := hl
  refine lv_lload_n hx hb d_M_node_0 rfl (lv_at hl 0 rfl) ?_
  refine lv_lload_n hx hb d_M_node_1 rfl (lv_at hl 1 rfl) ?_
  refine tl_goL (v := (tl_mix (a) (b))) (va_runS (As := [.long (a), .long (b)]) (rest := []) ⟨hx, hb, hml, hown, hw⟩ (c_M_mix l (a) (b)) (⟨tl_cB hw tl_m248 tl_m3 tl_m246 dd_M_mix rfl rfl ⟨Nat.le_of_ble_eq_true rfl, Nat.le_of_ble_eq_true rfl⟩, hw _ tl_m247⟩) (tl_pre0) rfl rfl hl.1 rfl (lv_room (Nat.le_of_ble_eq_true rfl)) d_M_node_2 ⟨Nat.zero_le _, Nat.zero_le _⟩) ?_
  refine lv_ldc2 (v := 2) hx hb hown (hw _ tl_m257) d_M_node_5 ?_
  refine tl_goL (v := (tl_mix (tl_mix (a) (b)) (2))) (va_runS (As := [.long (tl_mix (a) (b)), .long (2)]) (rest := []) ⟨hx, hb, hml, hown, hw⟩ (c_M_mix l (tl_mix (a) (b)) (2)) (⟨tl_cB hw tl_m248 tl_m3 tl_m246 dd_M_mix rfl rfl ⟨Nat.le_of_ble_eq_true rfl, Nat.le_of_ble_eq_true rfl⟩, hw _ tl_m247⟩) (tl_pre0) rfl rfl hl.1 rfl (lv_room (Nat.le_of_ble_eq_true rfl)) d_M_node_8 ⟨Nat.zero_le _, Nat.zero_le _⟩) ?_
  exact W.lret hx hb hr (fun t9 ht9 _ => ⟨(tl_mix (tl_mix (a) (b)) (2)), rfl, rfl, ht9⟩) (fun q h => by cases h) d_M_node_11
