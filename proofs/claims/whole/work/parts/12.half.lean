/-! half: the loops -/
theorem tl_hg_stop {f k n : Nat} (h : n ≤ k * 2) : tl_hg f k n = k := by
  cases f with
  | zero => rfl
  | succ f => unfold tl_hg; rw [if_neg (by omega)]
theorem tl_hg_go {f k n : Nat} (h : k * 2 < n) : tl_hg (f + 1) k n = tl_hg f (k * 2) n := by
  show (if k * 2 < n then tl_hg f (k * 2) n else k) = _
  rw [if_pos h]
theorem tl_pw6 : ∀ f, f < 6 → 2 ^ (6 - (f + 1)) * 2 = 2 ^ (6 - f) := by decide
theorem tl_hb {k f : Nat} (h1 : f ≤ 6) (h2 : k = 2 ^ (6 - f)) (h3 : k < 64) : ∃ g, f = g + 1 := by
  cases f with
  | zero => exact absurd h3 (by rw [h2]; decide)
  | succ g => exact ⟨g, rfl⟩

set_option maxHeartbeats 4000000 in
set_option maxRecDepth 100000 in
theorem c_H_half (l : Launch) (n : Nat) (hn : n < 65) : Met l y_H_half (k_H_half :: tl_ws) { frames := 0, cells := 0, slots := 0, locals := 0 } (va_Pc [.int (nI (n))] (fun _ => True)) (vp_Si (fun r => r = nI (tl_half n))) 0 0 (fun _ => False) := by
  refine Met.ofW (cc := b_H_half) (maxL := 2) (ret := (some .int)) (by decide) rfl ?_
  intro p e s m args below meth c s₁ B hml hv
  obtain ⟨rfl, -⟩ := hv
  have hx := B.exec
  have hb := B.bytes
  have hr := B.returns
  have hw : ∀ w ∈ tl_ws, w.before ([.int (nI (n))] : List Value).toArray s = true := fun w h => atoms_spec (ws := k_H_half :: tl_ws) B.pre w (List.mem_cons_of_mem _ h)
  have hown : s.vm.findClass R_H = some m.cls := findClass_of_methodNamed B.named
  have hlocks := B.notSynchronized
  have hl := lv_entry ([.int (nI (n))]) (n := 2) (Nat.le_of_ble_eq_true rfl)
  rw [lg_entry_eq]
  generalize (lg_sl ([.int (nI (n))]) ++ List.replicate (2 - (lg_sl ([.int (nI (n))])).length) Slot.unset).toArray = ls at hl ⊢
  have hl : lv_has ls 2 [(0, .int (nI (n)))] := hl
  refine lv_iconst (v := (nI (1))) hx hb d_H_half_0 (by decide) ?_
  refine lv_istore_n (lv' := [(1, .int (nI (1))), (0, .int (nI (n)))]) hx hb d_H_half_1 rfl hl (by decide) rfl (fun ls hl => ?_)
  refine tl_loopR (fun n2 ls => ∃ (k : Nat), lv_has ls 2 [(1, .int (nI (k))), (0, .int (nI (n)))] ∧ (n2 ≤ 6) ∧ (k ≤ 64) ∧ (k = 2 ^ (6 - n2)) ∧ (tl_hg n2 k n = tl_half n)) (fun n2 ls hI ih2 => ?_) 6 _ ⟨1, lv_sub hl [0, 1] rfl, by omega, by omega, rfl, rfl⟩
  obtain ⟨k, hl, hf, h64, hk, hg⟩ := hI
  refine lv_iload_n hx hb d_H_half_2 rfl (lv_at hl 0 rfl) ?_
  refine lv_bipush (v := (nI (64))) hx hb d_H_half_3 (by decide) ?_
  refine tl_cge (tgt := 22) (by omega) (by omega) hx hb d_H_half_5 (by decide) (fun h5 => ?_) (fun h5 => ?_)
  · -- 5 t
    refine lv_iload_n hx hb d_H_half_22 rfl (lv_at hl 0 rfl) ?_
    exact W.iret hx hb hr (fun t9 ht9 _ => ⟨(nI (k)), rfl, by rw [← hg, tl_hg_stop (by omega)], ht9⟩) (fun q h => by cases h) d_H_half_23
  · -- 5 f
    refine lv_iload_n hx hb d_H_half_8 rfl (lv_at hl 0 rfl) ?_
    refine lv_iconst (v := (nI (2))) hx hb d_H_half_9 (by decide) ?_
    refine lv_imul hx hb d_H_half_10 ?_
    refine lv_topi (nm_r (e' := (nI (k * 2))) (pk_mul _ _) ?_)
    refine lv_iload_n hx hb d_H_half_11 rfl (lv_at hl 1 rfl) ?_
    refine tl_cge (tgt := 22) (by omega) (by omega) hx hb d_H_half_12 (by decide) (fun h12 => ?_) (fun h12 => ?_)
    · -- 12 t
      refine lv_iload_n hx hb d_H_half_22 rfl (lv_at hl 0 rfl) ?_
      exact W.iret hx hb hr (fun t9 ht9 _ => ⟨(nI (k)), rfl, by rw [← hg, tl_hg_stop (by omega)], ht9⟩) (fun q h => by cases h) d_H_half_23
    · -- 12 f
      refine lv_iload_n hx hb d_H_half_15 rfl (lv_at hl 0 rfl) ?_
      refine lv_iconst (v := (nI (2))) hx hb d_H_half_16 (by decide) ?_
      refine lv_imul hx hb d_H_half_17 ?_
      refine lv_topi (nm_r (e' := (nI (k * 2))) (pk_mul _ _) ?_)
      refine lv_istore_n (lv' := [(1, .int (nI (k * 2))), (0, .int (nI (n)))]) hx hb d_H_half_18 rfl hl (by decide) rfl (fun ls hl => ?_)
      refine lv_goto (tgt := 2) hx hb d_H_half_19 (by decide) ?_
      obtain ⟨f, rfl⟩ := tl_hb hf hk (by omega)
      exact ih2 f _ (by omega) ⟨k * 2, lv_sub hl [0, 1] rfl, by omega, by omega, (by rw [hk]; exact tl_pw6 f (by omega)), ((tl_hg_go (by omega)).symm.trans hg)⟩

set_option maxHeartbeats 4000000 in
set_option maxRecDepth 100000 in
theorem c_M_half (l : Launch) (n : Nat) (hn : n < 65) : Met l y_M_half (k_M_half :: tl_ws) { frames := 0, cells := 0, slots := 0, locals := 0 } (va_Pc [.int (nI (n))] (fun _ => True)) (vp_Si (fun r => r = nI (tl_half n))) 0 0 (fun _ => False) := by
  refine Met.ofW (cc := b_M_half) (maxL := 2) (ret := (some .int)) (by decide) rfl ?_
  intro p e s m args below meth c s₁ B hml hv
  obtain ⟨rfl, -⟩ := hv
  have hx := B.exec
  have hb := B.bytes
  have hr := B.returns
  have hw : ∀ w ∈ tl_ws, w.before ([.int (nI (n))] : List Value).toArray s = true := fun w h => atoms_spec (ws := k_M_half :: tl_ws) B.pre w (List.mem_cons_of_mem _ h)
  have hown : s.vm.findClass R_M = some m.cls := findClass_of_methodNamed B.named
  have hlocks := B.notSynchronized
  have hl := lv_entry ([.int (nI (n))]) (n := 2) (Nat.le_of_ble_eq_true rfl)
  rw [lg_entry_eq]
  generalize (lg_sl ([.int (nI (n))]) ++ List.replicate (2 - (lg_sl ([.int (nI (n))])).length) Slot.unset).toArray = ls at hl ⊢
  have hl : lv_has ls 2 [(0, .int (nI (n)))] := hl
  refine lv_iconst (v := (nI (1))) hx hb d_M_half_0 (by decide) ?_
  refine lv_istore_n (lv' := [(1, .int (nI (1))), (0, .int (nI (n)))]) hx hb d_M_half_1 rfl hl (by decide) rfl (fun ls hl => ?_)
  refine tl_loopR (fun n2 ls => ∃ (k : Nat), lv_has ls 2 [(1, .int (nI (k))), (0, .int (nI (n)))] ∧ (n2 ≤ 6) ∧ (k ≤ 64) ∧ (k = 2 ^ (6 - n2)) ∧ (tl_hg n2 k n = tl_half n)) (fun n2 ls hI ih2 => ?_) 6 _ ⟨1, lv_sub hl [0, 1] rfl, by omega, by omega, rfl, rfl⟩
  obtain ⟨k, hl, hf, h64, hk, hg⟩ := hI
  refine lv_iconst (v := (nI (2))) hx hb d_M_half_2 (by decide) ?_
  refine lv_iload_n hx hb d_M_half_3 rfl (lv_at hl 0 rfl) ?_
  refine lv_imul hx hb d_M_half_4 ?_
  refine lv_topi (nm_r (e' := (nI (2 * k))) (pk_mul _ _) ?_)
  refine lv_iload_n hx hb d_M_half_5 rfl (lv_at hl 1 rfl) ?_
  refine tl_cge (tgt := 16) (by omega) (by omega) hx hb d_M_half_6 (by decide) (fun h6 => ?_) (fun h6 => ?_)
  · -- 6 t
    refine lv_iload_n hx hb d_M_half_16 rfl (lv_at hl 0 rfl) ?_
    exact W.iret hx hb hr (fun t9 ht9 _ => ⟨(nI (k)), rfl, by rw [← hg, tl_hg_stop (by omega)], ht9⟩) (fun q h => by cases h) d_M_half_17
  · -- 6 f
    refine lv_iconst (v := (nI (2))) hx hb d_M_half_9 (by decide) ?_
    refine lv_iload_n hx hb d_M_half_10 rfl (lv_at hl 0 rfl) ?_
    refine lv_imul hx hb d_M_half_11 ?_
    refine lv_topi (nm_r (e' := (nI (2 * k))) (pk_mul _ _) ?_)
    refine lv_istore_n (lv' := [(1, .int (nI (2 * k))), (0, .int (nI (n)))]) hx hb d_M_half_12 rfl hl (by decide) rfl (fun ls hl => ?_)
    refine lv_goto (tgt := 2) hx hb d_M_half_13 (by decide) ?_
    obtain ⟨f, rfl⟩ := tl_hb hf hk (by omega)
    exact ih2 f _ (by omega) ⟨2 * k, lv_sub hl [0, 1] rfl, by omega, by omega, by rw [Nat.mul_comm]; exact (by rw [hk]; exact tl_pw6 f (by omega)), by rw [Nat.mul_comm]; exact ((tl_hg_go (by omega)).symm.trans hg)⟩
