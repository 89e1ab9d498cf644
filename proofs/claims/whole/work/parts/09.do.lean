/-! Calls that write; numbers of the heads. -/
def tl_Qi (v : Int32) (X : Heap → Prop) (A : Nat → Prop) : Array Value → State → Outcome → State → Prop := va_Qi (fun r (_ : Unit) => r = v) (fun _ t => X t.heap) A
def tl_Ql (v : Int64) (X : Heap → Prop) (A : Nat → Prop) : Array Value → State → Outcome → State → Prop := va_Ql (fun r (_ : Unit) => r = v) (fun _ t => X t.heap) A
def tl_Qv (X : Heap → Prop) (A : Nat → Prop) : Array Value → State → Outcome → State → Prop := va_Qv (fun (_ : Unit) => True) (fun _ t => X t.heap) A
section TLO
variable {p : Program} {l : Launch} {e : Env} {R : Room} {s : State} {m : MethodId} {args : Array Value} {below : List Frame} {meth : Method} {c : Code} {H : Heap} {locs : List Loc} {cells slots : Nat} {Q : State → Prop} {pc : Nat} {ls : Array Slot} {rest st0 : List Value} {a : Array Value} {A0 A1 : Nat → Prop} {H0 : Heap} {X : Heap → Prop}
theorem tl_doI {v : Int32} (hr : va_Run p l e R s m args below meth c H locs cells slots 0 0 (F0 m pc ls st0) rest (tl_Qi v X A1 a) A1) (hS : va_S A0 H0 H locs) (hA : ∀ q, A1 q → A0 q)
    (kk : ∀ (H1 : Heap) (locs1 : List Loc), X H1 → va_S A0 H0 H1 locs1 → (∀ q : Nat, q < H.size → ¬ A1 q → H1[q]? = H[q]?) → W p l e R s m args below meth c H1 locs1 cells slots Q (F0 m (pc + 3) ls (.int v :: rest))) : W p l e R s m args below meth c H locs cells slots Q (F0 m pc ls st0) :=
  va_calli hr hS (fun q _ h => hA q h) hA (fun r u t H1 locs1 ht _ hp hB _ hk hS1 => by subst hp; rw [ht] at hB; exact kk H1 locs1 hB hS1 hk)
theorem tl_doL {v : Int64} (hr : va_Run p l e R s m args below meth c H locs cells slots 0 0 (F0 m pc ls st0) rest (tl_Ql v X A1 a) A1) (hS : va_S A0 H0 H locs) (hA : ∀ q, A1 q → A0 q)
    (kk : ∀ (H1 : Heap) (locs1 : List Loc), X H1 → va_S A0 H0 H1 locs1 → (∀ q : Nat, q < H.size → ¬ A1 q → H1[q]? = H[q]?) → W p l e R s m args below meth c H1 locs1 cells slots Q (F0 m (pc + 3) ls (.long v :: rest))) : W p l e R s m args below meth c H locs cells slots Q (F0 m pc ls st0) :=
  va_calll hr hS (fun q _ h => hA q h) hA (fun r u t H1 locs1 ht _ hp hB _ hk hS1 => by subst hp; rw [ht] at hB; exact kk H1 locs1 hB hS1 hk)
theorem tl_doV (hr : va_Run p l e R s m args below meth c H locs cells slots 0 0 (F0 m pc ls st0) rest (tl_Qv X A1 a) A1) (hS : va_S A0 H0 H locs) (hA : ∀ q, A1 q → A0 q)
    (kk : ∀ (H1 : Heap) (locs1 : List Loc), X H1 → va_S A0 H0 H1 locs1 → (∀ q : Nat, q < H.size → ¬ A1 q → H1[q]? = H[q]?) → W p l e R s m args below meth c H1 locs1 cells slots Q (F0 m (pc + 3) ls rest)) : W p l e R s m args below meth c H locs cells slots Q (F0 m pc ls st0) :=
  va_callv hr hS (fun q _ h => hA q h) hA (fun u t H1 locs1 ht _ _ hB _ hk hS1 => by rw [ht] at hB; exact kk H1 locs1 hB hS1 hk)
end TLO
section TLE
variable {A : Nat → Prop} {s t : State} {H : Heap} {locs : List Loc} {X : Heap → Prop} {a : Array Value}
theorem tl_endI {v : Int32} (hS : va_S A s.heap H locs) (hX : X H) (ht : t.heap = H) : tl_Qi v X A a s (.returned (some (.int v))) t := ⟨⟨v, (), rfl, rfl, by show X t.heap; rw [ht]; exact hX⟩, hS.F ht⟩
theorem tl_endL {v : Int64} (hS : va_S A s.heap H locs) (hX : X H) (ht : t.heap = H) : tl_Ql v X A a s (.returned (some (.long v))) t := ⟨⟨v, (), rfl, rfl, by show X t.heap; rw [ht]; exact hX⟩, hS.F ht⟩
theorem tl_endV (hS : va_S A s.heap H locs) (hX : X H) (ht : t.heap = H) : tl_Qv X A a s (.returned none) t := ⟨⟨(), rfl, trivial, by show X t.heap; rw [ht]; exact hX⟩, hS.F ht⟩
end TLE
theorem tl_num_le (L p : Nat) : tl_num L p ≤ L := by unfold tl_num; split <;> omega
theorem tl_num_self (L : Nat) : tl_num L (L % 2) = L := if_pos rfl
theorem tl_lp1 {L : Nat} (h : tl_num L 0 < tl_num L 1) : L % 2 = 1 := by
  unfold tl_num at h
  by_cases h1 : L % 2 = 1
  · exact h1
  · rw [if_neg h1] at h
    by_cases h0 : L % 2 = 0
    · rw [if_pos h0] at h; omega
    · omega
theorem tl_lp0 {L : Nat} (h : tl_num L 1 ≤ tl_num L 0) : L % 2 = 0 := by
  unfold tl_num at h
  by_cases h1 : L % 2 = 1
  · rw [if_pos h1] at h
    rw [if_neg (by omega)] at h
    omega
  · omega
theorem tl_ix {x : Int32} {n : Nat} (hn : n < 2 ^ 31) (h1 : ¬ x < 0) (h2 : ¬ nI n ≤ x) : ∃ j, j < n ∧ x = nI j := by
  obtain ⟨j, hj, rfl⟩ := nI_of h1
  exact ⟨j, Nat.lt_of_not_le (fun q => h2 ((nI_leI hn hj).mpr q)), rfl⟩
theorem tl_ixle {x : Int32} {n : Nat} (hn : n < 2 ^ 31) (h1 : ¬ x < 0) (h2 : ¬ nI n < x) : ∃ j, j ≤ n ∧ x = nI j := by
  obtain ⟨j, hj, rfl⟩ := nI_of h1
  exact ⟨j, Nat.le_of_not_lt (fun q => h2 ((nI_ltI hn hj).mpr q)), rfl⟩
/-- is there a head in that place -/
def tl_has (L : Nat) (x : Int32) : Bool := (x == 0 && tl_num L 0 != 0) || (x == 1 && tl_num L 1 != 0)
theorem tl_has_j {L j : Nat} (hj : j < 2) : tl_has L (nI j) = (tl_num L j != 0) := by
  rcases (show j = 0 ∨ j = 1 by omega) with rfl | rfl
  · show ((true && tl_num L 0 != 0) || (false && tl_num L 1 != 0)) = _
    simp
  · show ((false && tl_num L 0 != 0) || (true && tl_num L 1 != 0)) = _
    simp
theorem tl_has_lo {L : Nat} {x : Int32} (h : x < 0) : tl_has L x = false := by
  unfold tl_has
  have h0 : (x == 0) = false := by
    apply beq_eq_false_iff_ne.mpr
    intro q; subst q; exact absurd h (by decide)
  have h1 : (x == 1) = false := by
    apply beq_eq_false_iff_ne.mpr
    intro q; subst q; exact absurd h (by decide)
  rw [h0, h1]; rfl
theorem tl_has_hi {L : Nat} {x : Int32} (h : nI 2 ≤ x) : tl_has L x = false := by
  unfold tl_has
  have h0 : (x == 0) = false := by
    apply beq_eq_false_iff_ne.mpr
    intro q; subst q; exact absurd h (by decide)
  have h1 : (x == 1) = false := by
    apply beq_eq_false_iff_ne.mpr
    intro q; subst q; exact absurd h (by decide)
  rw [h0, h1]; rfl
