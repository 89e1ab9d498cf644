/-! Pure rows for the reference's rootAt, putRight, turn. -/
theorem tl_sm0 {n k : Nat} (h : n / 2 ^ k % 2 = 0) : (n % 2 ^ (k + 1) != 0) = (n % 2 ^ k != 0) := by
  rw [Nat.pow_succ, Nat.mod_mul, h, Nat.mul_zero, Nat.add_zero]
theorem tl_sm1 {n k : Nat} (h : n / 2 ^ k % 2 = 1) : (n % 2 ^ (k + 1) != 0) = true := by
  have hp : 1 ≤ 2 ^ k := Nat.one_le_two_pow
  rw [Nat.pow_succ, Nat.mod_mul, h]
  exact bne_iff_ne.mpr (by omega)
theorem tl_smf {n k : Nat} {b : Bool} (h : b = (n % 2 ^ k != 0)) (hb : b = false) : n % 2 ^ k = 0 := by
  rw [hb] at h
  have := h.symm
  simpa using this
theorem tl_smt {n k : Nat} {b : Bool} (h : b = (n % 2 ^ k != 0)) (hb : b = true) : ¬ n % 2 ^ k = 0 := by
  rw [hb] at h
  exact bne_iff_ne.mp h.symm
theorem tl_ctr_w {e : Nat → Int64} {a c j : Nat} {th : Nat → Int32} {wh : Nat → Int64} (h : tl_ctr e a c j th wh) (hj : j < 8) (hb : c / 2 ^ j % 2 = 1) : wh j = tl_root e (a + 2 ^ (j + 1) * (c / 2 ^ (j + 1))) (2 ^ j) := (((h j hj).2 (Nat.le_refl _)).1 hb).2
theorem tl_ctr_w0 {e : Nat → Int64} {a c k : Nat} {th : Nat → Int32} {wh : Nat → Int64} (h : tl_ctr e a c 0 th wh) (hk : k < 8) (h1 : ¬ th k = 0) : c / 2 ^ k % 2 = 1 ∧ wh k = tl_root e (a + 2 ^ (k + 1) * (c / 2 ^ (k + 1))) (2 ^ k) := by
  have h2 := (h k hk).2 (Nat.zero_le _)
  have h3 : c / 2 ^ k % 2 = 0 ∨ c / 2 ^ k % 2 = 1 := by omega
  rcases h3 with h3 | h3
  · exact absurd (h2.2 h3) h1
  · exact ⟨h3, (h2.1 h3).2⟩
theorem tl_ctr_n0 {e : Nat → Int64} {a c k : Nat} {th : Nat → Int32} {wh : Nat → Int64} (h : tl_ctr e a c 0 th wh) (hk : k < 8) (h1 : th k = 0) : c / 2 ^ k % 2 = 0 := by
  have h2 := (h k hk).2 (Nat.zero_le _)
  have h3 : c / 2 ^ k % 2 = 0 ∨ c / 2 ^ k % 2 = 1 := by omega
  rcases h3 with h3 | h3
  · exact h3
  · have h4 := (h2.1 h3).1
    rw [h1] at h4
    exact absurd h4 (by decide)
theorem tl_th0 {th : Nat → Int32} {i : Nat} (h : ∀ k, k < i → th k = 0) : ∀ k, k < i + 1 → upd th i (tl_bi false) k = 0 := fun k hk => by
  by_cases e : k = i
  · rw [e, pk_us]; rfl
  · rw [pk_un e]; exact h k (by omega)
/-- the tiles in one row, while tile t is being written up to place i -/
def tl_tw (T : Nat → Nat → Int64) (t i : Nat) (g : Nat → Int64) (q : Nat) : Int64 := if q / 8 = t ∧ q % 8 < i then g (q % 8) else T (q / 8) (q % 8)
theorem tl_tw_0 {T : Nat → Nat → Int64} {t q : Nat} {g : Nat → Int64} : tl_tw T t 0 g q = T (q / 8) (q % 8) := if_neg (fun h => absurd h.2 (Nat.not_lt_zero _))
theorem tl_tw_s {T : Nat → Nat → Int64} {tf : Nat → Int64} {t i : Nat} {g : Nat → Int64} (hi : i < 8) (h : ∀ q, q < 72 → tf q = tl_tw T t i g q) : ∀ q, q < 72 → vp_updL tf (8 * t + i) (g i) q = tl_tw T t (i + 1) g q := fun q hq => by
  unfold tl_tw
  by_cases e : q = 8 * t + i
  · rw [e, pk_uLs, if_pos ⟨by omega, by omega⟩, show (8 * t + i) % 8 = i by omega]
  · rw [pk_uLn e, h q hq]
    unfold tl_tw
    by_cases c : q / 8 = t ∧ q % 8 < i
    · rw [if_pos c, if_pos ⟨c.1, by omega⟩]
    · rw [if_neg c, if_neg (fun d => c ⟨d.1, by
        have := d.2
        have h2 := d.1
        omega⟩)]
theorem tl_tw_8 {T : Nat → Nat → Int64} {tf : Nat → Int64} {t : Nat} {g : Nat → Int64} (h : ∀ q, q < 72 → tf q = tl_tw T t 8 g q) : ∀ q, q < 72 → tf q = tl_setT T t g (q / 8) (q % 8) := fun q hq => by
  rw [h q hq]
  unfold tl_tw tl_setT
  by_cases c : q / 8 = t
  · rw [if_pos ⟨c, by omega⟩, if_pos c]
  · rw [if_neg (fun d => c d.1), if_neg c]
/-- a row turned round as far as i from both ends -/
def tl_tu (pf : Nat → Int64) (pl i : Nat) (pf1 : Nat → Int64) : Prop := ∀ k, k < pl → pf1 k = if k < i ∨ pl - i ≤ k then pf (pl - 1 - k) else pf k
theorem tl_tu_0 {pf : Nat → Int64} {pl : Nat} : tl_tu pf pl 0 pf := fun k hk => by rw [if_neg (by omega)]
theorem tl_tu_s {pf pf1 : Nat → Int64} {pl i : Nat} (hi : i < pl / 2) (h : tl_tu pf pl i pf1) : tl_tu pf pl (i + 1) (vp_updL (vp_updL pf1 i (pf1 (pl - 1 - i))) (pl - 1 - i) (pf1 i)) := fun k hk => by
  have h1 := h i (by omega)
  have h2 := h (pl - 1 - i) (by omega)
  rw [if_neg (by omega)] at h1 h2
  by_cases e1 : k = pl - 1 - i
  · rw [e1, pk_uLs, h1, if_pos (by omega), show pl - 1 - (pl - 1 - i) = i by omega]
  · rw [pk_uLn e1]
    by_cases e2 : k = i
    · rw [e2, pk_uLs, h2, if_pos (by omega)]
    · rw [pk_uLn e2, h k hk]
      by_cases c : k < i ∨ pl - i ≤ k
      · rw [if_pos c, if_pos (by omega)]
      · rw [if_neg c, if_neg (by omega)]
theorem tl_tu_e {pf pf1 : Nat → Int64} {pl i : Nat} (hi : pl / 2 ≤ i) (hi2 : i ≤ pl / 2) (h : tl_tu pf pl i pf1) : ∀ k, k < pl → pf1 k = pf (pl - 1 - k) := fun k hk => by
  rw [h k hk]
  by_cases c : k < i ∨ pl - i ≤ k
  · rw [if_pos c]
  · rw [if_neg c, show pl - 1 - k = k by omega]
theorem tl_rev_get {xs ys : List Int64} (h : xs = ys.reverse) {i : Nat} (hi : i < ys.length) : xs.getD (xs.length - 1 - i) 0 = ys.getD i 0 := by
  subst h
  rw [List.getD_eq_getElem?_getD, List.getD_eq_getElem?_getD, List.length_reverse, List.getElem?_reverse (by omega)]
  congr 2
  omega
/-- the reference's tiles: what is put, crashed or not -/
def tl_pq (cd : Bool) (E : Nat → Int64) (n c t : Nat) (k : tl_K) : Bool × tl_K := if cd then (false, k) else tl_put E n c t k
