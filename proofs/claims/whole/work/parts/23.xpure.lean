/-! The class's picture of a state; lists laid behind one another in an array. -/
def tl_X (D : va_G) (cJ cI cG : ClassId) (ad : Nat → Nat) : tl_S → Heap → Prop
  | (E, nf, T, L, sz, rt, dn, wm, cr, Lp, ol, O), H => ∃ (hn hs : Nat → Int32) (pf : Nat → Int64) (pl : Nat) (r8 : Nat → Int64), tl_H nf hn hs L sz pf pl Lp ol ∧ va_P D tl_cl (tl_W cJ cI cG ad E nf T hn hs rt dn wm cr pf pl O ol r8) H
def tl_app (pf : Nat → Int64) (pl : Nat) (xs : List Int64) (pf' : Nat → Int64) : Prop := (∀ i, i < pl → pf' i = pf i) ∧ ∀ i, i < xs.length → pf' (pl + i) = xs.getD i 0
theorem tl_app_0 {pf : Nat → Int64} {pl : Nat} : tl_app pf pl [] pf := ⟨fun _ _ => rfl, fun i hi => absurd hi (Nat.not_lt_zero _)⟩
theorem tl_app_s {pf pf1 : Nat → Int64} {pl : Nat} {xs : List Int64} {r : Int64} (h : tl_app pf pl xs pf1) : tl_app pf pl (xs ++ [r]) (vp_updL pf1 (pl + xs.length) r) := by
  refine ⟨fun i hi => ?_, fun i hi => ?_⟩
  · rw [pk_uLn (by omega)]
    exact h.1 i hi
  · rw [List.length_append] at hi
    have hi : i < xs.length + 1 := hi
    by_cases e : i = xs.length
    · subst e
      rw [pk_uLs, List.getD_eq_getElem?_getD, List.getElem?_append_right (Nat.le_refl _), Nat.sub_self]
      rfl
    · rw [pk_uLn (by omega), h.2 i (by omega), List.getD_eq_getElem?_getD, List.getD_eq_getElem?_getD, List.getElem?_append_left (by omega)]
theorem tl_app_H {pf pf1 : Nat → Int64} {xs : List Int64} (h : tl_app pf 0 xs pf1) : ∀ i, i < xs.length → pf1 i = xs.getD i 0 := fun i hi => by
  have := h.2 i hi
  rw [Nat.zero_add] at this
  exact this
theorem tl_hnS {hn : Nat → Int32} {L : Nat} (hh : ∀ p, p < 2 → hn p = nI (tl_num L p)) : ∀ p, p < 2 → upd hn ((L + 1) % 2) (nI (L + 1)) p = nI (tl_num (L + 1) p) := fun p hp => by
  by_cases e : p = (L + 1) % 2
  · rw [e, pk_us, tl_num_self]
  · rw [pk_un e, hh p hp]
    unfold tl_num
    rw [if_pos (show L % 2 = p by omega), if_neg (fun q => e q.symm)]
    rfl
theorem tl_hzS {hs : Nat → Int32} {sz : Nat → Nat} {k nf : Nat} (hz : ∀ p, p < 2 → hs p = nI (sz p)) : ∀ p, p < 2 → upd hs k (nI nf) p = nI (tl_upN sz k nf p) := fun p hp => by
  unfold tl_upN
  by_cases e : p = k
  · rw [e, pk_us, if_pos rfl]
  · rw [pk_un e, if_neg e, hz p hp]
theorem tl_szS {sz : Nat → Nat} {k nf : Nat} (h : ∀ p, p < 2 → sz p ≤ nf) : ∀ p, p < 2 → tl_upN sz k nf p ≤ nf := fun p hp => by
  unfold tl_upN
  split
  · exact Nat.le_refl _
  · exact h p hp
