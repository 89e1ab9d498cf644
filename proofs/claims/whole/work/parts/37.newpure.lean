/-! Addresses out of a world; what the tables say of long[][]. -/
theorem tl_of_D {A : Nat → Prop} {ws : va_W} (hD : va_D A ws) : tl_ap (fun k => (ws.map (fun q => q.1)).getD k 0) ws.length ∧ ∀ k, k < ws.length → A ((ws.map (fun q => q.1)).getD k 0) := by
  have key : ∀ k, k < ws.length → ∃ p : Nat × va_E, ws[k]? = some p ∧ (ws.map (fun q => q.1)).getD k 0 = p.1 := fun k hk => by
    refine ⟨ws[k], List.getElem?_eq_getElem hk, ?_⟩
    rw [List.getD_eq_getElem?_getD, List.getElem?_map, List.getElem?_eq_getElem hk]
    rfl
  refine ⟨fun i j hi hj h => ?_, fun k hk => ?_⟩
  · obtain ⟨p, h1, h2⟩ := key i hi
    obtain ⟨q, h3, h4⟩ := key j hj
    exact hD.1 i j p q h1 h3 (by rw [← h2, ← h4]; exact h)
  · obtain ⟨p, h1, h2⟩ := key k hk
    rw [h2]
    exact hD.2 k p h1
theorem tl_sameA {D : va_G} {cl : List vw_C} {tys : List (ClassId × FieldType)} {s : State} (hK : va_K D cl tys s) (i j : Nat) {a b : ClassId} {ty : FieldType} (hty : ∀ C, ty ≠ .object C) (hi : tys[i]? = some (a, ty)) (hj : tys[j]? = some (b, ty)) : a = b := by
  have h1 := (hK.2 i _ hi).2
  have h2 := (hK.2 j _ hj).2
  cases ty with
  | object C => exact absurd rfl (hty C)
  | _ => exact Option.some.inj (h1.symm.trans h2)
/-- long[] and long[][] stand in the tables -/
def tl_G2 (U : State) : Prop := ∃ (comp cG : ClassId) (kG : Class), U.vm.findClass (FieldType.array .long).toString = some comp ∧ U.vm.classes[cG]? = some kG ∧ kG.kind = .array comp (.array .long) ∧ U.vm.findClass ("[" ++ (FieldType.array .long).toString) = some cG
theorem tl_G2.moved {u U : State} (hvm : u.vm.Alike U.vm) (h : tl_G2 u) : tl_G2 U := by
  obtain ⟨comp, cG, kG, h1, h2, h3, h4⟩ := h
  obtain ⟨k', hk', he⟩ := hvm.2.2 _ _ h2
  exact ⟨comp, cG, k', by rw [hvm.findClass]; exact h1, hk', by rw [he]; exact h3, by rw [hvm.findClass]; exact h4⟩
theorem tl_G2.of {args : Array Value} {s : State} (h : (Cond.arrayOver (.array .long)).before args s = true) : tl_G2 s := by
  obtain ⟨comp, c, k, h1, -, h2, h3, h4⟩ := arrayOverA_spec h
  exact ⟨comp, c, k, h1, h2, h3, h4⟩
