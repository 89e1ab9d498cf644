/-! What is known of the reference's numbers. -/
def tl_G (nf : Nat) (hn hs : Nat → Int32) (L : Nat) (sz : Nat → Nat) (pf : Nat → Int64) (pl : Nat) (Lp : List Int64) (ol : Nat) (T : Nat → Nat → Int64) (tf : Nat → Int64) : Prop :=
  tl_H nf hn hs L sz pf pl Lp ol ∧ (L = 0 → sz 0 = 0) ∧ ∀ q, q < 72 → tf q = T (q / 8) (q % 8)
theorem tl_l0 {L : Nat} (h0 : tl_num L 0 = 0) (h1 : tl_num L 1 = 0) : L = 0 := by
  unfold tl_num at h0 h1
  by_cases e : L % 2 = 0
  · rw [if_pos e] at h0; exact h0
  · rw [if_pos (by omega)] at h1; omega
theorem tl_lm0 {L : Nat} (h : tl_num L 1 < tl_num L 0) : ¬ L = 0 ∧ L % 2 = 0 := by
  unfold tl_num at h
  by_cases e : L % 2 = 0
  · rw [if_pos e] at h; omega
  · rw [if_neg e, if_pos (by omega)] at h; omega
theorem tl_lm1 {L : Nat} (h : tl_num L 0 ≤ tl_num L 1) (hn : ¬ tl_num L 0 = 0 ∨ ¬ tl_num L 1 = 0) : ¬ L = 0 ∧ L % 2 = 1 := by
  unfold tl_num at h hn
  by_cases e : L % 2 = 0
  · rw [if_pos e, if_neg (by omega)] at h hn; omega
  · rw [if_neg e, if_pos (by omega)] at h hn; omega
theorem tl_has_no {L : Nat} {x : Int32} (h0 : ¬ x = 0) (h1 : ¬ x = nI 1) : tl_has L x = false := by
  unfold tl_has
  have e0 : (x == 0) = false := beq_eq_false_iff_ne.mpr h0
  have e1 : (x == 1) = false := beq_eq_false_iff_ne.mpr h1
  rw [e0, e1]; rfl
theorem tl_78 {x : Int32} (h : nI 7 < x) : nI 8 ≤ x := by
  have h1 := Int32.lt_iff_toInt_lt.mp h
  apply Int32.le_iff_toInt_le.mpr
  rw [nI_toInt (by decide)] at h1 ⊢
  omega
theorem tl_tile0 {T : Nat → Nat → Int64} {b t i : Int32} (h1 : ¬ (b = 0 ∧ ¬ t < 0 ∧ ¬ nI 8 ≤ t)) (h2 : ¬ (b = nI 1 ∧ t = 0)) : tl_tileA T b t i = 0 := by
  unfold tl_tileA
  split
  · rfl
  · split
    · rfl
    · split
      · rename_i hb
        split
        · rfl
        · split
          · rfl
          · rename_i h3 h4
            exact absurd ⟨hb, h3, h4⟩ h1
      · split
        · rename_i hb
          split
          · rename_i h4
            exact absurd ⟨hb, h4⟩ h2
          · rfl
        · rfl
theorem tl_im1 (x : Int32) : x + Int32.ofInt (-1) = x - nI 1 := by
  rw [litm1, Int32.sub_eq_add_neg]
  rfl
theorem tl_pm1 (k : Nat) : nI (k + 1) - nI 1 = nI k := nI_pred k
theorem tl_dd (x a : Nat) : x / 2 ^ (a + 1) = x / 2 ^ a / 2 ^ 1 := by rw [Nat.div_div_eq_div_mul, Nat.pow_succ]
theorem tl_half0 {x z : Nat} (hz : ∀ j, j < z → x / 2 ^ j % 2 = 0) (h : x / 2 ^ z = 0) : x = 0 := by
  have h1 := tl_low0 z hz
  have h2 : x < 2 ^ z := by
    have := Nat.div_add_mod x (2 ^ z)
    rw [h, h1] at this
    have hp : 1 ≤ 2 ^ z := Nat.one_le_two_pow
    omega
  rw [Nat.mod_eq_of_lt h2] at h1
  exact h1
theorem tl_z30 {x z : Nat} (hx : x < 2 ^ 30) (h : ¬ x / 2 ^ z = 0) : z < 30 := by
  apply Nat.lt_of_not_le
  intro q
  have h3 : 2 ^ 30 ≤ 2 ^ z := Nat.pow_le_pow_right (by decide) q
  exact h (Nat.div_eq_of_lt (by omega))
