/-! The reference's picture of a state; its walks. -/
def tl_Y (D : va_G) (cJ cI cZ : ClassId) (bd : Nat → Nat) : tl_S → Heap → Prop
  | (E, nf, T, L, sz, rt, dn, wm, cr, Lp, ol, O), H => ∃ (tf : Nat → Int64) (hn hs : Nat → Int32) (cd : Bool) (pf : Nat → Int64) (pl : Nat) (rw : Nat → Int64) (rl : Nat) (wh : Nat → Int64) (th : Nat → Int32), tl_G nf hn hs L sz pf pl Lp ol T tf ∧ va_P D tl_cl (tl_V cJ cI cZ bd E nf tf hn hs rt dn wm cr cd pf pl O ol rw rl wh th) H
theorem tl_pq_0 {cd : Bool} {E : Nat → Int64} {n t : Nat} {k : tl_K} : tl_pq cd E n 0 t k = (!cd, k) := by cases cd <;> rfl
theorem tl_pq_t {E : Nat → Int64} {n c t : Nat} {k : tl_K} : tl_pq true E n c t k = (false, k) := rfl
theorem tl_pq_f {E : Nat → Int64} {n c t : Nat} {k : tl_K} : tl_pq false E n c t k = tl_put E n c t k := rfl
theorem tl_snoc {pf : Nat → Int64} {xs : List Int64} {r : Int64} {pl : Nat} (hp : pl = xs.length) (h : ∀ i, i < pl → pf i = xs.getD i 0) : ∀ i, i < pl + 1 → vp_updL pf pl r i = (xs ++ [r]).getD i 0 := fun i hi => by
  subst hp
  by_cases e : i = xs.length
  · subst e
    rw [pk_uLs, List.getD_eq_getElem?_getD, List.getElem?_append_right (Nat.le_refl _), Nat.sub_self]
    rfl
  · rw [pk_uLn e, h i (by omega), List.getD_eq_getElem?_getD, List.getD_eq_getElem?_getD, List.getElem?_append_left (by omega)]
theorem tl_snoc_l {xs : List Int64} {r : Int64} {pl : Nat} (hp : pl = xs.length) : pl + 1 = (xs ++ [r]).length := by rw [List.length_append, hp]; rfl
theorem tl_rev_s {xs ys zs : List Int64} {r : Int64} (h : xs ++ (ys ++ [r]).reverse = zs) : (xs ++ [r]) ++ ys.reverse = zs := by
  rw [← h, List.reverse_append]
  simp
theorem tl_rev_l {xs ys zs : List Int64} (h : xs ++ ys.reverse = zs.reverse) : xs.length + ys.length = zs.length := by
  have := congrArg List.length h
  simpa using this
theorem tl_rev_e {xs zs : List Int64} (h : xs ++ [].reverse = zs.reverse) : xs = zs.reverse := by
  rw [← h]
  simp
/-- what turn leaves of a row that was laid the wrong way round -/
theorem tl_turned {pf pf1 : Nat → Int64} {xs zs : List Int64} {pl : Nat} (hp : pl = xs.length) (h : ∀ i, i < pl → pf i = xs.getD i 0) (hx : xs = zs.reverse) (ht : ∀ k, k < pl → pf1 k = pf (pl - 1 - k)) : pl = zs.length ∧ ∀ i, i < pl → pf1 i = zs.getD i 0 := by
  have hl : pl = zs.length := by rw [hp, hx, List.length_reverse]
  refine ⟨hl, fun i hi => ?_⟩
  rw [ht i hi, h _ (by omega), hp]
  exact tl_rev_get hx (by omega)
theorem tl_odd {m j : Nat} (hm : 1 ≤ m) (hz : ∀ i, i < j → m / 2 ^ i % 2 = 0) : (m - 1) / 2 ^ j % 2 = 1 → m / 2 ^ j % 2 = 0 := by
  intro h
  have hp : 1 ≤ 2 ^ j := Nat.one_le_two_pow
  have h1 := Nat.div_add_mod m (2 ^ j)
  rw [tl_low0 j hz, Nat.add_zero] at h1
  have hq : 1 ≤ m / 2 ^ j := by
    apply Nat.one_le_iff_ne_zero.mpr
    intro q
    rw [q, Nat.mul_zero] at h1
    omega
  rw [tl_pow_div hq h1.symm] at h
  omega
theorem tl_even {m j : Nat} (hm : 1 ≤ m) (hz : ∀ i, i < j → m / 2 ^ i % 2 = 0) : ¬ (m - 1) / 2 ^ j % 2 = 1 → m / 2 ^ j % 2 = 1 := by
  intro h
  have hp : 1 ≤ 2 ^ j := Nat.one_le_two_pow
  have h1 := Nat.div_add_mod m (2 ^ j)
  rw [tl_low0 j hz, Nat.add_zero] at h1
  have hq : 1 ≤ m / 2 ^ j := by
    apply Nat.one_le_iff_ne_zero.mpr
    intro q
    rw [q, Nat.mul_zero] at h1
    omega
  rw [tl_pow_div hq h1.symm] at h
  omega
theorem tl_j30 {m j : Nat} (hm : 1 ≤ m) (hm2 : m < 2 ^ 30) (hz : ∀ i, i < j → m / 2 ^ i % 2 = 0) : j < 31 := by
  apply Nat.lt_of_not_le
  intro q
  have := tl_z31 (x := m) (by omega) hz q
  omega
theorem tl_p2_t {x : Int32} (h : tl_p2 x = true) : x &&& (x - nI 1) = 0 := beq_iff_eq.mp h
theorem tl_p2_f {x : Int32} (h : tl_p2 x = false) : ¬ x &&& (x - nI 1) = 0 := beq_eq_false_iff_ne.mp h
theorem tl_ldT_of {O rw : Nat → Int64} {ol m k : Nat} {x y : Int64} (h : ∀ i, i < ol → rw (i + 1) = O i) : tl_ldB (tl_lead rw (1 + ol - 1) 1 ((m - 1) / 2 ^ tl_tz m) ((k - 1) / 2 ^ tl_tz m) x x) x y = tl_ldT O ol m k x y := by
  unfold tl_ldT
  rw [Nat.add_sub_cancel_left]
  have := tl_lead_shift (o := O) (p := rw) (d := 1) ol 0 ((m - 1) / 2 ^ tl_tz m) ((k - 1) / 2 ^ tl_tz m) x x (fun j _ h2 => h j (by omega))
  rw [Nat.zero_add] at this
  rw [this]
theorem tl_ldF_of {O rw : Nat → Int64} {ol m k : Nat} {x y : Int64} (h0 : 0 < ol) (h : ∀ i, i < ol → rw (i + 0) = O i) : tl_ldB (tl_lead rw (0 + ol - 1) 1 ((m - 1) / 2 ^ tl_tz m) ((k - 1) / 2 ^ tl_tz m) (rw 0) (rw 0)) x y = tl_ldF O ol m k x y := by
  unfold tl_ldF
  have e0 := h 0 h0
  rw [Nat.zero_add] at e0
  have := tl_lead_shift (o := O) (p := rw) (d := 0) (ol - 1) 1 ((m - 1) / 2 ^ tl_tz m) ((k - 1) / 2 ^ tl_tz m) (O 0) (O 0) (fun j h1 h2 => h j (by omega))
  rw [Nat.add_zero] at this
  rw [e0, Nat.zero_add, this]
