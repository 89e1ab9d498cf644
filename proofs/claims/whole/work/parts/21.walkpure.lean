/-! The walks of promises 20 and 21, step by step. -/
theorem tl_left_t {f g : Nat} (h : f % 2 = 1 ∨ f = g) : tl_left f g = true := by
  unfold tl_left
  rcases h with h | h <;> simp [h]
theorem tl_left_f {f g : Nat} (h1 : ¬ f % 2 = 1) (h2 : ¬ f = g) : tl_left f g = false := by
  unfold tl_left
  simp [h2]
  omega
theorem tl_lv_t {f g : Nat} (h : tl_left f g = true) : tl_lv f g = tl_tz f + 1 := by unfold tl_lv; rw [h]; rfl
theorem tl_lv_f {f g : Nat} (h : tl_left f g = false) : tl_lv f g = 1 := by unfold tl_lv; rw [h]; rfl
theorem tl_tz_lt {x : Nat} (h : x < 2 ^ 30) : tl_tz x < 30 := by
  by_cases h0 : x = 0
  · rw [h0, tl_tz_0]; decide
  · obtain ⟨-, h2, -⟩ := tl_tz_ok (x := x) (by omega) (by omega)
    apply Nat.lt_of_not_le
    intro q
    have h3 : 2 ^ 30 ≤ 2 ^ tl_tz x := Nat.pow_le_pow_right (by decide) q
    rw [Nat.div_eq_of_lt (by omega)] at h2
    omega
theorem tl_lv_lt {f g : Nat} (h : f < 2 ^ 30) : tl_lv f g < 32 := by
  have := tl_tz_lt h
  cases hl : tl_left f g
  · rw [tl_lv_f hl]; decide
  · rw [tl_lv_t hl]; omega
theorem tl_div_le (x k : Nat) : x / 2 ^ k ≤ x := Nat.div_le_self _ _
theorem tl_show_0 {o : Nat → Int64} {i f g : Nat} {r : Int64} : tl_show o 0 i f g r = (g == 0, r) := rfl
theorem tl_show_no {o : Nat → Int64} {c i f g : Nat} {r : Int64} (h : g = 0) : tl_show o (c + 1) i f g r = (false, r) := by
  show (if _ then _ else _) = _
  rw [if_pos h]
theorem tl_show_t {o : Nat → Int64} {c i f g : Nat} {r : Int64} (h : ¬ g = 0) (hl : tl_left f g = true) : tl_show o (c + 1) i f g r = tl_show o c (i + 1) (f / 2 ^ tl_lv f g) (g / 2 ^ tl_lv f g) (tl_node (o i) r) := by
  show (if _ then _ else _) = _
  rw [if_neg h, hl]; rfl
theorem tl_show_f {o : Nat → Int64} {c i f g : Nat} {r : Int64} (h : ¬ g = 0) (hl : tl_left f g = false) : tl_show o (c + 1) i f g r = tl_show o c (i + 1) (f / 2 ^ tl_lv f g) (g / 2 ^ tl_lv f g) (tl_node r (o i)) := by
  show (if _ then _ else _) = _
  rw [if_neg h, hl]; rfl
theorem tl_lead_0 {o : Nat → Int64} {i f g : Nat} {a b : Int64} : tl_lead o 0 i f g a b = (g == 0, a, b) := rfl
theorem tl_lead_no {o : Nat → Int64} {c i f g : Nat} {a b : Int64} (h : g = 0) : tl_lead o (c + 1) i f g a b = (false, a, b) := by
  show (if _ then _ else _) = _
  rw [if_pos h]
theorem tl_lead_t {o : Nat → Int64} {c i f g : Nat} {a b : Int64} (h : ¬ g = 0) (hl : tl_left f g = true) : tl_lead o (c + 1) i f g a b = tl_lead o c (i + 1) (f / 2 ^ tl_lv f g) (g / 2 ^ tl_lv f g) (tl_node (o i) a) (tl_node (o i) b) := by
  show (if _ then _ else _) = _
  rw [if_neg h, hl]; rfl
theorem tl_lead_f {o : Nat → Int64} {c i f g : Nat} {a b : Int64} (h : ¬ g = 0) (hl : tl_left f g = false) : tl_lead o (c + 1) i f g a b = tl_lead o c (i + 1) (f / 2 ^ tl_lv f g) (g / 2 ^ tl_lv f g) a (tl_node b (o i)) := by
  show (if _ then _ else _) = _
  rw [if_neg h, hl]; rfl
def tl_p2 (x : Int32) : Bool := x &&& (x - nI 1) == 0
def tl_shA (O : Nat → Int64) (ol : Nat) (x : Int64) (m k : Int32) (r : Int64) : Bool := if k < nI 1 then false else if nI 1000000 < k then false else if m < 0 then false else if m < k then
    ((tl_show O ol 0 m.toNatClampNeg (k.toNatClampNeg - 1) (tl_leaf x)).1 && (tl_show O ol 0 m.toNatClampNeg (k.toNatClampNeg - 1) (tl_leaf x)).2 == r) else false
/-- what the walk for m below k says: first and second come out -/
def tl_ldB (q : Bool × Int64 × Int64) (x y : Int64) : Bool := q.1 && q.2.1 == x && q.2.2 == y
def tl_ldT (O : Nat → Int64) (ol m k : Nat) (x y : Int64) : Bool := tl_ldB (tl_lead O ol 0 ((m - 1) / 2 ^ tl_tz m) ((k - 1) / 2 ^ tl_tz m) x x) x y
def tl_ldF (O : Nat → Int64) (ol m k : Nat) (x y : Int64) : Bool := tl_ldB (tl_lead O (ol - 1) 1 ((m - 1) / 2 ^ tl_tz m) ((k - 1) / 2 ^ tl_tz m) (O 0) (O 0)) x y
def tl_ldA (O : Nat → Int64) (ol : Nat) (m k : Int32) (x y : Int64) : Bool := if k < nI 1 then false else if nI 1000000 < k then false else if m < nI 1 then false else if m ≤ k then
    (if m = k then (ol == 0 && x == y) else if tl_p2 m then tl_ldT O ol m.toNatClampNeg k.toNatClampNeg x y else if ol = 0 then false else tl_ldF O ol m.toNatClampNeg k.toNatClampNeg x y) else false
theorem tl_ge1 {x : Int32} (h : ¬ x < nI 1) : ∃ j, 1 ≤ j ∧ j < 2 ^ 31 ∧ x = nI j := by
  have h0 : ¬ x < 0 := fun q => h (Int32.lt_iff_toInt_lt.mpr (by
    have h1 := Int32.lt_iff_toInt_lt.mp q
    rw [Int32.toInt_zero] at h1
    rw [nI_toInt (by decide)]
    omega))
  obtain ⟨j, hj, rfl⟩ := nI_of h0
  exact ⟨j, Nat.le_of_not_lt (fun q => h ((nI_ltI hj (by decide)).mpr q)), hj, rfl⟩
theorem tl_bi1 {b : Bool} (h : b = true) : nI 1 = tl_bi b := by rw [h]; rfl
theorem tl_bi0 {b : Bool} (h : b = false) : nI 0 = tl_bi b := by rw [h]; rfl
def tl_lvB (f : Nat) (b : Bool) : Nat := if b then tl_tz f + 1 else 1
theorem tl_z31 {x z : Nat} (hx : x < 2 ^ 31) (h : ∀ j, j < z → x / 2 ^ j % 2 = 0) (hz : 31 ≤ z) : x = 0 := by
  have h1 := tl_low0 31 (fun j hj => h j (by omega))
  rw [Nat.mod_eq_of_lt hx] at h1
  exact h1
theorem tl_zs {x z : Nat} (h : ∀ j, j < z → x / 2 ^ j % 2 = 0) (h1 : x / 2 ^ z % 2 = 0) : ∀ j, j < z + 1 → x / 2 ^ j % 2 = 0 := fun j hj => by
  by_cases e : j = z
  · rw [e]; exact h1
  · exact h j (by omega)
