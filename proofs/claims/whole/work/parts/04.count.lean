/-! The reference's counter of whole subtrees gives ROOT. -/
theorem tl_root_cg {e : Nat → Int64} {a b n m : Nat} (h1 : a = b) (h2 : n = m) : tl_root e a n = tl_root e b m := by rw [h1, h2]
/-- c leaves are in; the bits below j are already cleared -/
def tl_ctr (e : Nat → Int64) (a c j : Nat) (th : Nat → Int32) (wh : Nat → Int64) : Prop :=
  ∀ k, k < 8 → (k < j → th k = 0) ∧ (j ≤ k → (c / 2 ^ k % 2 = 1 → th k = 1 ∧ wh k = tl_root e (a + 2 ^ (k + 1) * (c / 2 ^ (k + 1))) (2 ^ k)) ∧ (c / 2 ^ k % 2 = 0 → th k = 0))
theorem tl_ctr_0 (e : Nat → Int64) (a : Nat) {th : Nat → Int32} (wh : Nat → Int64) (h : ∀ k, k < 8 → th k = 0) : tl_ctr e a 0 0 th wh := by
  intro k hk
  refine ⟨fun h0 => absurd h0 (Nat.not_lt_zero _), fun _ => ⟨fun h1 => ?_, fun _ => h k hk⟩⟩
  rw [Nat.zero_div] at h1
  exact absurd h1 (by decide)
theorem tl_bit_lt {c j : Nat} (hc : c < 64) (hj : j < 8) (h : c / 2 ^ j % 2 = 1) : j < 6 := by
  apply Nat.lt_of_not_le
  intro h6
  have h7 : j = 6 ∨ j = 7 := by omega
  rcases h7 with rfl | rfl
  · simp only [Nat.reducePow] at h; omega
  · simp only [Nat.reducePow] at h; omega
theorem tl_ctr_bit {e : Nat → Int64} {a c j : Nat} {th : Nat → Int32} {wh : Nat → Int64} (h : tl_ctr e a c j th wh) (hj : j < 8) (h1 : ¬ th j = 0) : c / 2 ^ j % 2 = 1 := by
  have h2 := (h j hj).2 (Nat.le_refl _)
  have h3 : c / 2 ^ j % 2 = 0 ∨ c / 2 ^ j % 2 = 1 := by omega
  rcases h3 with h3 | h3
  · exact absurd (h2.2 h3) h1
  · exact h3
theorem tl_ctr_nbit {e : Nat → Int64} {a c j : Nat} {th : Nat → Int32} {wh : Nat → Int64} (h : tl_ctr e a c j th wh) (hj : j < 8) (h1 : th j = 0) : c / 2 ^ j % 2 = 0 := by
  have h2 := (h j hj).2 (Nat.le_refl _)
  have h3 : c / 2 ^ j % 2 = 0 ∨ c / 2 ^ j % 2 = 1 := by omega
  rcases h3 with h3 | h3
  · exact h3
  · have h4 := (h2.1 h3).1
    rw [h1] at h4
    exact absurd h4 (by decide)
theorem tl_ctr_step {e : Nat → Int64} {a c j : Nat} {th th' : Nat → Int32} {wh : Nat → Int64} (h : tl_ctr e a c j th wh) (hj : j < 8) (h' : ∀ k, th' k = if k = j then 0 else th k) : tl_ctr e a c (j + 1) th' wh := by
  intro k hk
  have hh := h k hk
  rw [h' k]
  refine ⟨fun h1 => ?_, fun h1 => ?_⟩
  · by_cases h2 : k = j
    · rw [if_pos h2]
    · rw [if_neg h2]; exact hh.1 (by omega)
  · rw [if_neg (by omega)]
    exact hh.2 (by omega)
theorem tl_ctr_low {c j : Nat} (hj : j < 6) (hl : c % 2 ^ j = 2 ^ j - 1) (hb : c / 2 ^ j % 2 = 1) : c % 2 ^ (j + 1) = 2 ^ (j + 1) - 1 := by
  have h6 : j = 0 ∨ j = 1 ∨ j = 2 ∨ j = 3 ∨ j = 4 ∨ j = 5 := by omega
  rcases h6 with rfl | rfl | rfl | rfl | rfl | rfl <;> simp only [Nat.reducePow, Nat.reduceAdd, Nat.reduceSub] at * <;> omega
theorem tl_ctr_node {e : Nat → Int64} {a c j : Nat} {w h : Int64} (hj : j < 6) (hl : c % 2 ^ j = 2 ^ j - 1) (hb : c / 2 ^ j % 2 = 1) (hw : w = tl_root e (a + 2 ^ (j + 1) * (c / 2 ^ (j + 1))) (2 ^ j)) (hh : h = tl_root e (a + (c + 1 - 2 ^ j)) (2 ^ j)) :
    tl_node w h = tl_root e (a + (c + 1 - 2 ^ (j + 1))) (2 ^ (j + 1)) := by
  have hp1 : 1 ≤ 2 ^ j := Nat.one_le_two_pow
  have e1 : 2 ^ (j + 1) = 2 ^ j + 2 ^ j := by rw [Nat.pow_succ]; omega
  have e2 : a + 2 ^ (j + 1) * (c / 2 ^ (j + 1)) = a + (c + 1 - 2 ^ (j + 1)) := by
    have h6 : j = 0 ∨ j = 1 ∨ j = 2 ∨ j = 3 ∨ j = 4 ∨ j = 5 := by omega
    clear hw hh e1 hp1
    rcases h6 with rfl | rfl | rfl | rfl | rfl | rfl <;> simp only [Nat.reducePow, Nat.reduceAdd, Nat.reduceSub] at * <;> omega
  have e3 : a + (c + 1 - 2 ^ j) = (a + (c + 1 - 2 ^ (j + 1))) + 2 ^ j := by
    have h6 : j = 0 ∨ j = 1 ∨ j = 2 ∨ j = 3 ∨ j = 4 ∨ j = 5 := by omega
    clear hw hh e1 hp1 e2
    rcases h6 with rfl | rfl | rfl | rfl | rfl | rfl <;> simp only [Nat.reducePow, Nat.reduceAdd, Nat.reduceSub] at * <;> omega
  rw [hw, hh, e2, e3, tl_root_join e _ j (2 ^ j) hj (by omega) (Nat.le_refl _)]
  exact tl_root_cg rfl e1.symm
theorem tl_ctr_end {e : Nat → Int64} {a c j : Nat} {th th' : Nat → Int32} {wh wh' : Nat → Int64} {h : Int64} (hc : tl_ctr e a c j th wh) (hj : j < 7) (hl : c % 2 ^ j = 2 ^ j - 1) (hb : c / 2 ^ j % 2 = 0) (hh : h = tl_root e (a + (c + 1 - 2 ^ j)) (2 ^ j))
    (h1 : ∀ k, th' k = if k = j then 1 else th k) (h2 : ∀ k, wh' k = if k = j then h else wh k) : tl_ctr e a (c + 1) 0 th' wh' := by
  intro k hk
  refine ⟨fun h0 => absurd h0 (Nat.not_lt_zero _), fun _ => ?_⟩
  rw [h1 k, h2 k]
  have hck := hc k hk
  by_cases hkj : k = j
  · subst hkj
    rw [if_pos rfl, if_pos rfl]
    refine ⟨fun _ => ⟨rfl, ?_⟩, fun h0 => ?_⟩
    · rw [hh]
      refine tl_root_cg ?_ rfl
      have h6 : k = 0 ∨ k = 1 ∨ k = 2 ∨ k = 3 ∨ k = 4 ∨ k = 5 ∨ k = 6 := by omega
      clear hh hck hc h1 h2
      rcases h6 with rfl | rfl | rfl | rfl | rfl | rfl | rfl <;> simp only [Nat.reducePow, Nat.reduceAdd, Nat.reduceSub] at * <;> omega
    · exfalso
      have h6 : k = 0 ∨ k = 1 ∨ k = 2 ∨ k = 3 ∨ k = 4 ∨ k = 5 ∨ k = 6 := by omega
      clear hh hck hc h1 h2
      rcases h6 with rfl | rfl | rfl | rfl | rfl | rfl | rfl <;> simp only [Nat.reducePow, Nat.reduceAdd, Nat.reduceSub] at * <;> omega
  · rw [if_neg hkj, if_neg hkj]
    by_cases hlt : k < j
    · refine ⟨fun h0 => ?_, fun _ => hck.1 hlt⟩
      exfalso
      have e1 : (c + 1) % 2 ^ j = 0 := by
        have h6 : j = 0 ∨ j = 1 ∨ j = 2 ∨ j = 3 ∨ j = 4 ∨ j = 5 ∨ j = 6 := by omega
        clear hh hck hc h1 h2 hkj hlt h0
        rcases h6 with rfl | rfl | rfl | rfl | rfl | rfl | rfl <;> simp only [Nat.reducePow, Nat.reduceAdd, Nat.reduceSub] at * <;> omega
      have e2 : 2 ^ j = 2 ^ (k + 1) * 2 ^ (j - (k + 1)) := by
        rw [← Nat.pow_add]; congr 1; omega
      have e3 : (c + 1) % 2 ^ (k + 1) = 0 := by
        have h7 := Nat.mod_mul_right_mod (c + 1) (2 ^ (k + 1)) (2 ^ (j - (k + 1)))
        rw [← e2, e1, Nat.zero_mod] at h7
        exact h7.symm
      have h6 : k = 0 ∨ k = 1 ∨ k = 2 ∨ k = 3 ∨ k = 4 ∨ k = 5 := by omega
      clear hh hck hc h1 h2 hkj e1 e2 hl hb
      rcases h6 with rfl | rfl | rfl | rfl | rfl | rfl <;> simp only [Nat.reducePow, Nat.reduceAdd, Nat.reduceSub] at * <;> omega
    · have hgt : j + 1 ≤ k := by omega
      have e2 : 2 ^ k = 2 ^ (j + 1) * 2 ^ (k - (j + 1)) := by
        rw [← Nat.pow_add]; congr 1; omega
      have e3 : 2 ^ (k + 1) = 2 ^ (j + 1) * 2 ^ (k + 1 - (j + 1)) := by
        rw [← Nat.pow_add]; congr 1; omega
      have e1 : (c + 1) / 2 ^ (j + 1) = c / 2 ^ (j + 1) := by
        have h6 : j = 0 ∨ j = 1 ∨ j = 2 ∨ j = 3 ∨ j = 4 ∨ j = 5 ∨ j = 6 := by omega
        clear hh hck hc h1 h2 hkj hlt hgt e2 e3
        rcases h6 with rfl | rfl | rfl | rfl | rfl | rfl | rfl <;> simp only [Nat.reducePow, Nat.reduceAdd, Nat.reduceSub] at * <;> omega
      have d1 : (c + 1) / 2 ^ k = c / 2 ^ k := by rw [e2, ← Nat.div_div_eq_div_mul, ← Nat.div_div_eq_div_mul, e1]
      have d2 : (c + 1) / 2 ^ (k + 1) = c / 2 ^ (k + 1) := by rw [e3, ← Nat.div_div_eq_div_mul, ← Nat.div_div_eq_div_mul, e1]
      rw [d1, d2]
      exact hck.2 (by omega)
/-- the last pass, from the lowest bit up: what has been joined behind bit k -/
theorem tl_fin_0 {e : Nat → Int64} {a n k : Nat} {r : Int64} (hk : k < 8) (hb : n / 2 ^ k % 2 = 0) (hr : r = tl_root e (a + 2 ^ k * (n / 2 ^ k)) (n % 2 ^ k)) : r = tl_root e (a + 2 ^ (k + 1) * (n / 2 ^ (k + 1))) (n % 2 ^ (k + 1)) := by
  rw [hr]
  have h6 : k = 0 ∨ k = 1 ∨ k = 2 ∨ k = 3 ∨ k = 4 ∨ k = 5 ∨ k = 6 ∨ k = 7 := by omega
  clear hr
  refine tl_root_cg ?_ ?_ <;> rcases h6 with rfl | rfl | rfl | rfl | rfl | rfl | rfl | rfl <;> simp only [Nat.reducePow, Nat.reduceAdd, Nat.reduceSub] at * <;> omega
theorem tl_fin_1 {e : Nat → Int64} {a n k : Nat} {w : Int64} (hk : k < 8) (hb : n / 2 ^ k % 2 = 1) (h0 : n % 2 ^ k = 0) (hw : w = tl_root e (a + 2 ^ (k + 1) * (n / 2 ^ (k + 1))) (2 ^ k)) : w = tl_root e (a + 2 ^ (k + 1) * (n / 2 ^ (k + 1))) (n % 2 ^ (k + 1)) := by
  rw [hw]
  have h6 : k = 0 ∨ k = 1 ∨ k = 2 ∨ k = 3 ∨ k = 4 ∨ k = 5 ∨ k = 6 ∨ k = 7 := by omega
  clear hw
  refine tl_root_cg rfl ?_
  rcases h6 with rfl | rfl | rfl | rfl | rfl | rfl | rfl | rfl <;> simp only [Nat.reducePow, Nat.reduceAdd, Nat.reduceSub] at * <;> omega
theorem tl_fin_2 {e : Nat → Int64} {a n k : Nat} {w r : Int64} (hk : k < 8) (hn : n < 65) (hb : n / 2 ^ k % 2 = 1) (h0 : ¬ n % 2 ^ k = 0) (hw : w = tl_root e (a + 2 ^ (k + 1) * (n / 2 ^ (k + 1))) (2 ^ k)) (hr : r = tl_root e (a + 2 ^ k * (n / 2 ^ k)) (n % 2 ^ k)) :
    tl_node w r = tl_root e (a + 2 ^ (k + 1) * (n / 2 ^ (k + 1))) (n % 2 ^ (k + 1)) := by
  have hk6 : k < 6 := by
    apply Nat.lt_of_not_le
    intro h6
    have h7 : k = 6 ∨ k = 7 := by omega
    clear hw hr
    rcases h7 with rfl | rfl <;> simp only [Nat.reducePow, Nat.reduceAdd, Nat.reduceSub] at * <;> omega
  have e1 : a + 2 ^ k * (n / 2 ^ k) = (a + 2 ^ (k + 1) * (n / 2 ^ (k + 1))) + 2 ^ k := by
    have h6 : k = 0 ∨ k = 1 ∨ k = 2 ∨ k = 3 ∨ k = 4 ∨ k = 5 := by omega
    clear hw hr
    rcases h6 with rfl | rfl | rfl | rfl | rfl | rfl <;> simp only [Nat.reducePow, Nat.reduceAdd, Nat.reduceSub] at * <;> omega
  have e2 : n % 2 ^ (k + 1) = 2 ^ k + n % 2 ^ k := by
    have h6 : k = 0 ∨ k = 1 ∨ k = 2 ∨ k = 3 ∨ k = 4 ∨ k = 5 := by omega
    clear hw hr e1
    rcases h6 with rfl | rfl | rfl | rfl | rfl | rfl <;> simp only [Nat.reducePow, Nat.reduceAdd, Nat.reduceSub] at * <;> omega
  have hlt : n % 2 ^ k < 2 ^ k := Nat.mod_lt _ (Nat.one_le_two_pow)
  rw [hw, hr, e1, e2]
  exact tl_root_join e _ k (n % 2 ^ k) hk6 (by omega) (by omega)
/-! Zeros at the end of a number -/
def tl_tzf : Nat → Nat → Nat → Nat
  | 0, z, _ => z
  | f + 1, z, x => if x / 2 ^ z % 2 = 0 then tl_tzf f (z + 1) x else z
def tl_tz (x : Nat) : Nat := if x = 0 then 0 else tl_tzf 31 0 x
theorem tl_low0 {x : Nat} : ∀ z, (∀ j, j < z → x / 2 ^ j % 2 = 0) → x % 2 ^ z = 0 := by
  intro z
  induction z with
  | zero => intro _; rw [Nat.pow_zero, Nat.mod_one]
  | succ z ih =>
    intro h
    have h1 := ih (fun j hj => h j (by omega))
    have h2 := h z (by omega)
    rw [Nat.pow_succ, Nat.mod_mul, h1, h2]; rfl
theorem tl_tzf_ok {x : Nat} (h0 : 0 < x) : ∀ f z, (∀ j, j < z → x / 2 ^ j % 2 = 0) → x < 2 ^ (z + f) → tl_tzf f z x < z + f ∧ x / 2 ^ (tl_tzf f z x) % 2 = 1 ∧ ∀ j, j < tl_tzf f z x → x / 2 ^ j % 2 = 0 := by
  intro f
  induction f with
  | zero =>
    intro z h hx
    have h1 := tl_low0 z h
    rw [Nat.add_zero] at hx
    rw [Nat.mod_eq_of_lt hx] at h1
    omega
  | succ f ih =>
    intro z h hx
    unfold tl_tzf
    by_cases hb : x / 2 ^ z % 2 = 0
    · rw [if_pos hb]
      have h1 := ih (z + 1) (fun j hj => by
        by_cases hz : j = z
        · rw [hz]; exact hb
        · exact h j (by omega)) (by rw [show z + 1 + f = z + (f + 1) by omega]; exact hx)
      exact ⟨by omega, h1.2⟩
    · rw [if_neg hb]
      exact ⟨by omega, by omega, h⟩
theorem tl_tz_ok {x : Nat} (h0 : 0 < x) (h : x < 2 ^ 31) : tl_tz x < 31 ∧ x / 2 ^ (tl_tz x) % 2 = 1 ∧ ∀ j, j < tl_tz x → x / 2 ^ j % 2 = 0 := by
  unfold tl_tz
  rw [if_neg (by omega)]
  have h1 := tl_tzf_ok h0 31 0 (fun j hj => absurd hj (Nat.not_lt_zero _)) (by rw [Nat.zero_add]; exact h)
  exact ⟨by omega, h1.2⟩
theorem tl_tz_is {x z : Nat} (h0 : 0 < x) (h : x < 2 ^ 31) (hb : x / 2 ^ z % 2 = 1) (hl : ∀ j, j < z → x / 2 ^ j % 2 = 0) : z = tl_tz x := by
  obtain ⟨-, h2, h3⟩ := tl_tz_ok h0 h
  rcases Nat.lt_trichotomy z (tl_tz x) with h4 | h4 | h4
  · have := h3 z h4; omega
  · exact h4
  · have := hl _ h4; omega
theorem tl_tz_0 : tl_tz 0 = 0 := rfl
theorem tl_pow_div {m j q : Nat} (hq : 1 ≤ q) (h : m = 2 ^ j * q) : (m - 1) / 2 ^ j = q - 1 := by
  have hp1 : 1 ≤ 2 ^ j := Nat.one_le_two_pow
  obtain ⟨q', rfl⟩ : ∃ q', q = q' + 1 := ⟨q - 1, by omega⟩
  rw [h, Nat.mul_succ]
  have e1 : 2 ^ j * q' + 2 ^ j - 1 = (2 ^ j - 1) + 2 ^ j * q' := by omega
  rw [e1, Nat.add_mul_div_left _ _ (by omega), Nat.div_eq_of_lt (by omega)]
  omega
/-! The walks of promises 20 and 21 -/
def tl_left (f g : Nat) : Bool := f % 2 == 1 || f == g
def tl_lv (f g : Nat) : Nat := if tl_left f g then tl_tz f + 1 else 1
def tl_show (o : Nat → Int64) : Nat → Nat → Nat → Nat → Int64 → Bool × Int64
  | 0, _, _, g, r => (g == 0, r)
  | c + 1, i, f, g, r => if g = 0 then (false, r) else tl_show o c (i + 1) (f / 2 ^ tl_lv f g) (g / 2 ^ tl_lv f g) (if tl_left f g then tl_node (o i) r else tl_node r (o i))
def tl_lead (o : Nat → Int64) : Nat → Nat → Nat → Nat → Int64 → Int64 → Bool × Int64 × Int64
  | 0, _, _, g, a, b => (g == 0, a, b)
  | c + 1, i, f, g, a, b => if g = 0 then (false, a, b) else tl_lead o c (i + 1) (f / 2 ^ tl_lv f g) (g / 2 ^ tl_lv f g) (if tl_left f g then tl_node (o i) a else a) (if tl_left f g then tl_node (o i) b else tl_node b (o i))
theorem tl_lead_shift {o p : Nat → Int64} {d : Nat} : ∀ c i f g a b, (∀ j, i ≤ j → j < i + c → p (j + d) = o j) → tl_lead p c (i + d) f g a b = tl_lead o c i f g a b := by
  intro c
  induction c with
  | zero => intro i f g a b _; rfl
  | succ c ih =>
    intro i f g a b h
    unfold tl_lead
    by_cases h0 : g = 0
    · rw [if_pos h0, if_pos h0]
    · rw [if_neg h0, if_neg h0, h i (Nat.le_refl _) (by omega), show i + d + 1 = (i + 1) + d by omega]
      exact ih (i + 1) _ _ _ _ (fun j h1 h2 => h j (by omega) (by omega))
