/-! What the reading calls answer; what is known of the class's numbers. -/
def tl_H (nf : Nat) (hn hs : Nat → Int32) (L : Nat) (sz : Nat → Nat) (pf : Nat → Int64) (pl : Nat) (Lp : List Int64) (ol : Nat) : Prop :=
  nf ≤ 64 ∧ L < 2 ^ 30 ∧ (∀ p, p < 2 → hn p = nI (tl_num L p)) ∧ (∀ p, p < 2 → hs p = nI (sz p)) ∧ (∀ p, p < 2 → sz p ≤ nf) ∧ pl = Lp.length ∧ (∀ i, i < pl → pf i = Lp.getD i 0) ∧ pl ≤ 7 ∧ ol ≤ 8
theorem tl_pub_le {L nf : Nat} {sz : Nat → Nat} (h : ∀ p, p < 2 → sz p ≤ nf) : tl_pub L sz ≤ nf := h _ (Nat.mod_lt _ (by decide))
def tl_lenA (dn : Bool) (nf : Nat) : Int32 := if dn then -2 else nI nf
def tl_szA (L : Nat) (sz : Nat → Nat) (x : Int32) : Int32 := if tl_has L x then nI (sz x.toNatClampNeg) else -1
def tl_rtA (L : Nat) (rt : Nat → Int64) (x : Int32) : Int64 := if tl_has L x then rt x.toNatClampNeg else 0
def tl_tileA (T : Nat → Nat → Int64) (b t i : Int32) : Int64 := if i < 0 then 0 else if nI 8 ≤ i then 0 else if b = 0 then (if t < 0 then 0 else if nI 8 ≤ t then 0 else T t.toNatClampNeg i.toNatClampNeg)
  else if b = nI 1 then (if t = 0 then T 8 i.toNatClampNeg else 0) else 0
def tl_entA (E : Nat → Int64) (nf : Nat) (x : Int32) : Int64 := if x < 0 then 0 else if nI nf ≤ x then 0 else E x.toNatClampNeg
def tl_findA (E : Nat → Int64) (dn : Bool) (k : Nat) (x : Int64) : Int32 := if dn then -2 else tl_seek E (tl_leaf x) k 0
def tl_rofA (E : Nat → Int64) (nf : Nat) (x : Int32) : Int64 := if x < 0 then 0 else if nI nf < x then 0 else tl_root E 0 x.toNatClampNeg
def tl_prfA (Lp : List Int64) (x : Int32) : Int64 := if x < 0 then 0 else if nI Lp.length ≤ x then 0 else Lp.getD x.toNatClampNeg 0
theorem tl_has_ex {L : Nat} {x : Int32} (h : tl_has L x = true) : ∃ j, j < 2 ∧ x = nI j := by
  by_cases h1 : x < 0
  · rw [tl_has_lo h1] at h; cases h
  · by_cases h2 : nI 2 ≤ x
    · rw [tl_has_hi h2] at h; cases h
    · exact tl_ix (by decide) h1 h2
theorem tl_seek_go {E : Nat → Int64} {h : Int64} {c i : Nat} (hne : ¬ tl_leaf (E i) = h) : tl_seek E h (c + 1) i = tl_seek E h c (i + 1) := by
  show (if _ then _ else _) = _
  rw [if_neg hne]
theorem tl_seek_is {E : Nat → Int64} {h : Int64} {c i : Nat} (he : tl_leaf (E i) = h) : tl_seek E h (c + 1) i = nI i := by
  show (if _ then _ else _) = _
  rw [if_pos he]
