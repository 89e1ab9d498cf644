/-! The pure picture: the document's hashes, rows, roots. -/
def tl_ush (x : Int64) (y : Int32) : Int64 := (x.toUInt64 >>> (y.toInt64.toUInt64 &&& Int64.toUInt64 63)).toInt64
def tl_mixS (a b : Int64) : Int64 := (a ^^^ tl_ush a 29) * 5871781006564002453 + b
def tl_mixT (s : Int64) : Int64 := (s ^^^ tl_ush s 32) * 1181783497276652981
def tl_mix (a b : Int64) : Int64 := tl_mixT (tl_mixS a b) ^^^ tl_ush (tl_mixT (tl_mixS a b)) 31
def tl_leaf (e : Int64) : Int64 := tl_mix (tl_mix 7 e) 1
def tl_node (l r : Int64) : Int64 := tl_mix (tl_mix l r) 2
/-- the greatest power of two below n, for n from 2 to 64 -/
def tl_hg : Nat → Nat → Nat → Nat
  | 0, p, _ => p
  | f + 1, p, n => if p * 2 < n then tl_hg f (p * 2) n else p
def tl_half (n : Nat) : Nat := tl_hg 6 1 n
theorem tl_half_ok : ∀ n, n < 65 → 2 ≤ n → 1 ≤ tl_half n ∧ tl_half n < n ∧ n ≤ 2 * tl_half n := by decide +kernel
theorem tl_half_le : ∀ d, d < 7 → ∀ n, n < 65 → n ≤ 2 ^ (d + 1) → 2 ≤ n → tl_half n ≤ 2 ^ d := by decide +kernel
theorem tl_half_pow : ∀ k, k < 6 → ∀ r, r < 33 → 0 < r → r ≤ 2 ^ k → tl_half (2 ^ k + r) = 2 ^ k := by decide +kernel
def tl_rf (e : Nat → Int64) : Nat → Nat → Nat → Int64
  | 0, _, _ => 0
  | f + 1, a, n => if n = 0 then 0 else if n = 1 then tl_leaf (e a) else tl_node (tl_rf e f a (tl_half n)) (tl_rf e f (a + tl_half n) (n - tl_half n))
/-- ROOT of the n entries from the place a on -/
def tl_root (e : Nat → Int64) (a n : Nat) : Int64 := tl_rf e 7 a n
theorem tl_rf_eq (e : Nat → Int64) (f a n : Nat) : tl_rf e (f + 1) a n = if n = 0 then 0 else if n = 1 then tl_leaf (e a) else tl_node (tl_rf e f a (tl_half n)) (tl_rf e f (a + tl_half n) (n - tl_half n)) := rfl
theorem tl_rf_st (e : Nat → Int64) : ∀ d, d < 7 → ∀ f a n, n ≤ 2 ^ d → n < 65 → d + 1 ≤ f → tl_rf e f a n = tl_rf e (d + 1) a n := by
  intro d
  induction d with
  | zero =>
    intro _ f a n hn _ hf
    obtain ⟨g, rfl⟩ : ∃ g, f = g + 1 := ⟨f - 1, by omega⟩
    rw [tl_rf_eq, tl_rf_eq]
    have h1 : n ≤ 1 := hn
    by_cases h0 : n = 0
    · rw [if_pos h0, if_pos h0]
    · have h2 : n = 1 := by omega
      rw [if_neg h0, if_neg h0, if_pos h2, if_pos h2]
  | succ d ih =>
    intro hd f a n hn hn2 hf
    obtain ⟨g, rfl⟩ : ∃ g, f = g + 1 := ⟨f - 1, by omega⟩
    rw [tl_rf_eq, tl_rf_eq]
    by_cases h0 : n = 0
    · rw [if_pos h0, if_pos h0]
    · by_cases h1 : n = 1
      · rw [if_neg h0, if_neg h0, if_pos h1, if_pos h1]
      · rw [if_neg h0, if_neg h0, if_neg h1, if_neg h1]
        have hk := tl_half_ok n hn2 (by omega)
        have hl := tl_half_le d (by omega) n hn2 hn (by omega)
        rw [ih (by omega) g a (tl_half n) hl (by omega) (by omega), ih (by omega) g (a + tl_half n) (n - tl_half n) (by omega) (by omega) (by omega)]
theorem tl_root_0 (e : Nat → Int64) (a : Nat) : tl_root e a 0 = 0 := rfl
theorem tl_root_1 (e : Nat → Int64) (a : Nat) : tl_root e a 1 = tl_leaf (e a) := rfl
theorem tl_root_un (e : Nat → Int64) (a n : Nat) (h2 : 2 ≤ n) (h : n < 65) : tl_root e a n = tl_node (tl_root e a (tl_half n)) (tl_root e (a + tl_half n) (n - tl_half n)) := by
  have hk := tl_half_ok n h h2
  have hl := tl_half_le 5 (by omega) n h (by omega) h2
  unfold tl_root
  rw [tl_rf_eq, if_neg (by omega), if_neg (by omega)]
  rw [tl_rf_st e 5 (by omega) 7 a (tl_half n) hl (by omega) (by omega), tl_rf_st e 5 (by omega) 7 (a + tl_half n) (n - tl_half n) (by omega) (by omega) (by omega)]
/-- two rows, the first a power of two at least as long as the second -/
theorem tl_root_join (e : Nat → Int64) (a k r : Nat) (hk : k < 6) (h0 : 0 < r) (hr : r ≤ 2 ^ k) : tl_node (tl_root e a (2 ^ k)) (tl_root e (a + 2 ^ k) r) = tl_root e a (2 ^ k + r) := by
  have hp : 2 ^ k ≤ 32 := by
    have h5 : k ≤ 5 := by omega
    exact Nat.pow_le_pow_right (by omega) h5
  have hp1 : 1 ≤ 2 ^ k := Nat.one_le_two_pow
  have hh := tl_half_pow k hk r (by omega) h0 hr
  rw [tl_root_un e a (2 ^ k + r) (by omega) (by omega), hh, Nat.add_sub_cancel_left]
/-! PATH and BRIDGE -/
def tl_pf (e : Nat → Int64) : Nat → Nat → Nat → Nat → List Int64
  | 0, _, _, _ => []
  | f + 1, m, a, n => if n ≤ 1 then [] else if m < tl_half n then tl_pf e f m a (tl_half n) ++ [tl_root e (a + tl_half n) (n - tl_half n)]
    else tl_pf e f (m - tl_half n) (a + tl_half n) (n - tl_half n) ++ [tl_root e a (tl_half n)]
def tl_path (e : Nat → Int64) (m a n : Nat) : List Int64 := tl_pf e 7 m a n
theorem tl_pf_eq (e : Nat → Int64) (f m a n : Nat) : tl_pf e (f + 1) m a n = if n ≤ 1 then [] else if m < tl_half n then tl_pf e f m a (tl_half n) ++ [tl_root e (a + tl_half n) (n - tl_half n)]
    else tl_pf e f (m - tl_half n) (a + tl_half n) (n - tl_half n) ++ [tl_root e a (tl_half n)] := rfl
theorem tl_pf_st (e : Nat → Int64) : ∀ d, d < 7 → ∀ f m a n, n ≤ 2 ^ d → n < 65 → d + 1 ≤ f → tl_pf e f m a n = tl_pf e (d + 1) m a n := by
  intro d
  induction d with
  | zero =>
    intro _ f m a n hn _ hf
    obtain ⟨g, rfl⟩ : ∃ g, f = g + 1 := ⟨f - 1, by omega⟩
    have h1 : n ≤ 1 := hn
    rw [tl_pf_eq, tl_pf_eq, if_pos h1, if_pos h1]
  | succ d ih =>
    intro hd f m a n hn hn2 hf
    obtain ⟨g, rfl⟩ : ∃ g, f = g + 1 := ⟨f - 1, by omega⟩
    rw [tl_pf_eq, tl_pf_eq]
    by_cases h1 : n ≤ 1
    · rw [if_pos h1, if_pos h1]
    · rw [if_neg h1, if_neg h1]
      have hk := tl_half_ok n hn2 (by omega)
      have hl := tl_half_le d (by omega) n hn2 hn (by omega)
      rw [ih (by omega) g m a (tl_half n) hl (by omega) (by omega), ih (by omega) g (m - tl_half n) (a + tl_half n) (n - tl_half n) (by omega) (by omega) (by omega)]
theorem tl_path_0 (e : Nat → Int64) (m a n : Nat) (h : n ≤ 1) : tl_path e m a n = [] := by
  unfold tl_path
  rw [tl_pf_eq, if_pos h]
theorem tl_path_un (e : Nat → Int64) (m a n : Nat) (h2 : 2 ≤ n) (h : n < 65) : tl_path e m a n = if m < tl_half n then tl_path e m a (tl_half n) ++ [tl_root e (a + tl_half n) (n - tl_half n)]
    else tl_path e (m - tl_half n) (a + tl_half n) (n - tl_half n) ++ [tl_root e a (tl_half n)] := by
  have hk := tl_half_ok n h h2
  have hl := tl_half_le 5 (by omega) n h (by omega) h2
  unfold tl_path
  rw [tl_pf_eq, if_neg (by omega)]
  rw [tl_pf_st e 5 (by omega) 7 m a (tl_half n) hl (by omega) (by omega), tl_pf_st e 5 (by omega) 7 (m - tl_half n) (a + tl_half n) (n - tl_half n) (by omega) (by omega) (by omega)]
theorem tl_path_len (e : Nat → Int64) : ∀ d, d < 7 → ∀ m a n, n ≤ 2 ^ d → n < 65 → (tl_path e m a n).length ≤ d := by
  intro d
  induction d with
  | zero =>
    intro _ m a n hn _
    rw [tl_path_0 e m a n hn]
    exact Nat.le_refl _
  | succ d ih =>
    intro hd m a n hn hn2
    by_cases h1 : n ≤ 1
    · rw [tl_path_0 e m a n h1]
      exact Nat.zero_le _
    · have hk := tl_half_ok n hn2 (by omega)
      have hl := tl_half_le d (by omega) n hn2 hn (by omega)
      rw [tl_path_un e m a n (by omega) hn2]
      have i1 := ih (by omega) m a (tl_half n) hl (by omega)
      have i2 := ih (by omega) (m - tl_half n) (a + tl_half n) (n - tl_half n) (by omega) (by omega)
      split
      · rw [List.length_append]; simp only [List.length_cons, List.length_nil]; omega
      · rw [List.length_append]; simp only [List.length_cons, List.length_nil]; omega
def tl_bf (e : Nat → Int64) : Nat → Nat → Nat → Nat → Bool → List Int64
  | 0, _, _, _, _ => []
  | f + 1, m, a, n, w => if m = n then (if w then [] else [tl_root e a n]) else if m ≤ tl_half n then tl_bf e f m a (tl_half n) w ++ [tl_root e (a + tl_half n) (n - tl_half n)]
    else tl_bf e f (m - tl_half n) (a + tl_half n) (n - tl_half n) false ++ [tl_root e a (tl_half n)]
def tl_bridge (e : Nat → Int64) (m a n : Nat) (w : Bool) : List Int64 := tl_bf e 7 m a n w
theorem tl_bf_eq (e : Nat → Int64) (f m a n : Nat) (w : Bool) : tl_bf e (f + 1) m a n w = if m = n then (if w then [] else [tl_root e a n]) else if m ≤ tl_half n then tl_bf e f m a (tl_half n) w ++ [tl_root e (a + tl_half n) (n - tl_half n)]
    else tl_bf e f (m - tl_half n) (a + tl_half n) (n - tl_half n) false ++ [tl_root e a (tl_half n)] := rfl
theorem tl_bf_st (e : Nat → Int64) : ∀ d, d < 7 → ∀ f m a n w, 1 ≤ m → m ≤ n → n ≤ 2 ^ d → n < 65 → d + 1 ≤ f → tl_bf e f m a n w = tl_bf e (d + 1) m a n w := by
  intro d
  induction d with
  | zero =>
    intro _ f m a n w hm1 hm hn _ hf
    obtain ⟨g, rfl⟩ : ∃ g, f = g + 1 := ⟨f - 1, by omega⟩
    have h1 : n ≤ 1 := hn
    have h2 : m = n := by omega
    rw [tl_bf_eq, tl_bf_eq, if_pos h2, if_pos h2]
  | succ d ih =>
    intro hd f m a n w hm1 hm hn hn2 hf
    obtain ⟨g, rfl⟩ : ∃ g, f = g + 1 := ⟨f - 1, by omega⟩
    rw [tl_bf_eq, tl_bf_eq]
    by_cases h1 : m = n
    · rw [if_pos h1, if_pos h1]
    · rw [if_neg h1, if_neg h1]
      have hk := tl_half_ok n hn2 (by omega)
      have hl := tl_half_le d (by omega) n hn2 hn (by omega)
      by_cases h2 : m ≤ tl_half n
      · rw [if_pos h2, if_pos h2, ih (by omega) g m a (tl_half n) w hm1 h2 hl (by omega) (by omega)]
      · rw [if_neg h2, if_neg h2, ih (by omega) g (m - tl_half n) (a + tl_half n) (n - tl_half n) false (by omega) (by omega) (by omega) (by omega) (by omega)]
theorem tl_bridge_0 (e : Nat → Int64) (m a : Nat) (w : Bool) : tl_bridge e m a m w = if w then [] else [tl_root e a m] := by
  unfold tl_bridge
  rw [tl_bf_eq, if_pos rfl]
theorem tl_bridge_un (e : Nat → Int64) (m a n : Nat) (w : Bool) (h1 : 1 ≤ m) (h2 : m < n) (h : n < 65) : tl_bridge e m a n w = if m ≤ tl_half n then tl_bridge e m a (tl_half n) w ++ [tl_root e (a + tl_half n) (n - tl_half n)]
    else tl_bridge e (m - tl_half n) (a + tl_half n) (n - tl_half n) false ++ [tl_root e a (tl_half n)] := by
  have hk := tl_half_ok n h (by omega)
  have hl := tl_half_le 5 (by omega) n h (by omega) (by omega)
  unfold tl_bridge
  rw [tl_bf_eq, if_neg (by omega)]
  by_cases h3 : m ≤ tl_half n
  · rw [if_pos h3, if_pos h3, tl_bf_st e 5 (by omega) 7 m a (tl_half n) w h1 h3 hl (by omega) (by omega)]
  · rw [if_neg h3, if_neg h3, tl_bf_st e 5 (by omega) 7 (m - tl_half n) (a + tl_half n) (n - tl_half n) false (by omega) (by omega) (by omega) (by omega) (by omega)]
theorem tl_bridge_len (e : Nat → Int64) : ∀ d, d < 7 → ∀ m a n w, 1 ≤ m → m ≤ n → n ≤ 2 ^ d → n < 65 → (tl_bridge e m a n w).length ≤ d + 1 := by
  intro d
  induction d with
  | zero =>
    intro _ m a n w hm1 hm hn _
    have h1 : n ≤ 1 := hn
    obtain rfl : m = n := by omega
    rw [tl_bridge_0]
    cases w <;> simp
  | succ d ih =>
    intro hd m a n w hm1 hm hn hn2
    by_cases h1 : m = n
    · subst h1
      rw [tl_bridge_0]
      cases w <;> simp
    · have hk := tl_half_ok n hn2 (by omega)
      have hl := tl_half_le d (by omega) n hn2 hn (by omega)
      rw [tl_bridge_un e m a n w hm1 (by omega) hn2]
      by_cases h2 : m ≤ tl_half n
      · rw [if_pos h2, List.length_append]
        have i1 := ih (by omega) m a (tl_half n) w hm1 h2 hl (by omega)
        simp only [List.length_cons, List.length_nil]; omega
      · rw [if_neg h2, List.length_append]
        have i2 := ih (by omega) (m - tl_half n) (a + tl_half n) (n - tl_half n) false (by omega) (by omega) (by omega) (by omega)
        simp only [List.length_cons, List.length_nil]; omega
