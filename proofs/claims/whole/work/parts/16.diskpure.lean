/-! What a write does; a row of eight that is right or not. -/
def tl_wB (cr : Int32) : Bool := cr != 0
def tl_wC (cr : Int32) : Int32 := if cr = 0 then -1 else tl_dec cr
def tl_wD (cr : Int32) (dn : Bool) : Bool := if cr = 0 then true else dn
def tl_wW (cr wm : Int32) : Int32 := if cr = 0 then wm else wm + 1
theorem tl_wB_t {cr : Int32} (h : tl_wB cr = true) : ¬ cr = 0 := bne_iff_ne.mp h
theorem tl_wB_f {cr : Int32} (h : tl_wB cr = false) : cr = 0 := by
  unfold tl_wB at h
  simpa using h
theorem tl_wB0 {cr : Int32} (h : cr = 0) : tl_wB cr = false := by rw [h]; rfl
theorem tl_wB1 {cr : Int32} (h : ¬ cr = 0) : tl_wB cr = true := bne_iff_ne.mpr h
theorem tl_wC0 {cr : Int32} (h : cr = 0) : tl_wC cr = -1 := if_pos h
theorem tl_wCn {cr : Int32} (h : ¬ cr = 0) : tl_wC cr = tl_dec cr := if_neg h
theorem tl_wD0 {cr : Int32} {dn : Bool} (h : cr = 0) : tl_wD cr dn = true := if_pos h
theorem tl_wDn {cr : Int32} {dn : Bool} (h : ¬ cr = 0) : tl_wD cr dn = dn := if_neg h
theorem tl_wW0 {cr wm : Int32} (h : cr = 0) : tl_wW cr wm = wm := if_pos h
theorem tl_wWn {cr wm : Int32} (h : ¬ cr = 0) : tl_wW cr wm = wm + 1 := if_neg h
theorem tl_dec1 {cr : Int32} (h : cr ≤ 0) : tl_dec cr = cr := if_neg (Int32.not_lt.mpr h)
theorem tl_dec2 {cr : Int32} (h : ¬ cr ≤ 0) : tl_dec cr = cr - 1 := if_pos (Int32.not_le.mp h)
def tl_eqv (f g : Nat → Int64) (n : Nat) : Bool := decide (∀ j, j < n → f j = g j)
theorem tl_eqv_0 {f g : Nat → Int64} : true = tl_eqv f g 0 := (decide_eq_true (fun j hj => absurd hj (Nat.not_lt_zero _))).symm
theorem tl_eqv_F1 {f g : Nat → Int64} {n : Nat} {b : Bool} (h : b = tl_eqv f g n) (hb : b = false) : false = tl_eqv f g (n + 1) := by
  refine (decide_eq_false (fun q => ?_)).symm
  rw [hb] at h
  exact (of_decide_eq_false h.symm) (fun j hj => q j (by omega))
theorem tl_eqv_F2 {f g : Nat → Int64} {n : Nat} (h : ¬ f n = g n) : false = tl_eqv f g (n + 1) := (decide_eq_false (fun q => h (q n (by omega)))).symm
theorem tl_eqv_T {f g : Nat → Int64} {n : Nat} {b : Bool} (h : b = tl_eqv f g n) (hb : b = true) (hn : f n = g n) : true = tl_eqv f g (n + 1) := by
  refine (decide_eq_true (fun j hj => ?_)).symm
  rw [hb] at h
  have h2 := of_decide_eq_true h.symm
  by_cases e : j = n
  · rw [e]; exact hn
  · exact h2 j (by omega)
theorem tl_eqv_t {f g : Nat → Int64} {n : Nat} (h : tl_eqv f g n = true) : ∀ j, j < n → f j = g j := of_decide_eq_true h
theorem tl_eqv_f {f g : Nat → Int64} {n : Nat} (h : tl_eqv f g n = false) : ¬ ∀ j, j < n → f j = g j := of_decide_eq_false h
theorem tl_updL_all {f g : Nat → Int64} {n : Nat} (h : ∀ j, j < n → f j = g j) : ∀ j, j < n + 1 → vp_updL f n (g n) j = g j := by
  intro j hj
  by_cases e : j = n
  · rw [e, pk_uLs]
  · rw [pk_uLn e]; exact h j (by omega)
theorem tl_setT_self (T : Nat → Nat → Int64) (t : Nat) (r : Nat → Int64) : tl_setT T t r t = r := if_pos rfl
theorem tl_setT_ne (T : Nat → Nat → Int64) {t a : Nat} (r : Nat → Int64) (h : a ≠ t) : tl_setT T t r a = T a := if_neg h
section TLS
variable {D : va_G} {cl : List vw_C} {H : Heap} {cJ cI cG cZ : ClassId} {ad bd : Nat → Nat} {E : Nat → Int64} {nf : Nat} {T : Nat → Nat → Int64} {tf : Nat → Int64} {hn hs : Nat → Int32} {rt : Nat → Int64} {dn : Bool} {wm cr : Int32} {cd : Bool} {pf : Nat → Int64} {pl : Nat} {O : Nat → Int64} {ol : Nat} {r8 : Nat → Int64} {rw : Nat → Int64} {rl : Nat} {wh : Nat → Int64} {th : Nat → Int32}
theorem tl_Wk {T' : Nat → Nat → Int64} {k : Nat} (hk : k < 10) : (tl_W cJ cI cG ad E nf T' hn hs rt dn wm cr pf pl O ol r8)[k]? = (tl_W cJ cI cG ad E nf T hn hs rt dn wm cr pf pl O ol r8)[k]? := by
  rcases (show k = 0 ∨ k = 1 ∨ k = 2 ∨ k = 3 ∨ k = 4 ∨ k = 5 ∨ k = 6 ∨ k = 7 ∨ k = 8 ∨ k = 9 by omega) with rfl | rfl | rfl | rfl | rfl | rfl | rfl | rfl | rfl | rfl <;> rfl
theorem tl_Wlen : (tl_W cJ cI cG ad E nf T hn hs rt dn wm cr pf pl O ol r8).length = 19 := rfl
theorem tl_Wset {t : Nat} (ht : t < 9) {f g : Nat → Int64} (hfg : ∀ j, j < 8 → f j = g j) (hP : va_P D cl ((tl_W cJ cI cG ad E nf T hn hs rt dn wm cr pf pl O ol r8).set (10 + t) (ad (10 + t), .inl (cJ, 8, .inr (.inl f)))) H) : va_P D cl (tl_W cJ cI cG ad E nf (tl_setT T t g) hn hs rt dn wm cr pf pl O ol r8) H := by
  intro k q hk
  have hk19 : k < 19 := by
    have := (List.getElem?_eq_some_iff.mp hk).1
    rw [tl_Wlen] at this
    exact this
  by_cases e : k = 10 + t
  · subst e
    rw [tl_Wt ht, tl_setT_self] at hk
    cases hk
    have h1 := hP (10 + t) (ad (10 + t), .inl (cJ, 8, .inr (.inl f))) (by rw [List.getElem?_set_self (by rw [tl_Wlen]; omega)])
    show H[ad (10 + t)]? = some (vp_cell cJ (8, .inr (.inl g)))
    rw [← tl_cellL hfg]
    exact h1
  · refine hP k q ?_
    rw [List.getElem?_set_ne (fun h => e h.symm)]
    by_cases h10 : k < 10
    · rw [tl_Wk (T' := T) (T := tl_setT T t g) h10]
      exact hk
    · obtain ⟨u, rfl⟩ : ∃ u, k = 10 + u := ⟨k - 10, by omega⟩
      rw [tl_Wt (by omega), tl_setT_ne T g (by omega)] at hk
      rw [tl_Wt (by omega)]
      exact hk
end TLS
/-- one more tile, when it is right; when it is not, and no crash comes; when the crash comes -/
theorem tl_put_ok {E : Nat → Int64} {n c t : Nat} {T : Nat → Nat → Int64} {cr wm : Int32} {dn : Bool} (h : ∀ j, j < 8 → T t j = tl_right E n t j) : tl_put E n (c + 1) t (T, cr, dn, wm) = tl_put E n c (t + 1) (T, cr, dn, wm) := by
  show (if _ then _ else _) = _
  rw [if_pos h]
theorem tl_put_go {E : Nat → Int64} {n c t : Nat} {T : Nat → Nat → Int64} {cr wm : Int32} {dn : Bool} (h : ¬ ∀ j, j < 8 → T t j = tl_right E n t j) (hc : ¬ cr = 0) : tl_put E n (c + 1) t (T, cr, dn, wm) = tl_put E n c (t + 1) (tl_setT T t (tl_right E n t), tl_dec cr, dn, wm + 1) := by
  show (if _ then _ else if _ then _ else _) = _
  rw [if_neg h, if_neg hc]
theorem tl_put_no {E : Nat → Int64} {n c t : Nat} {T : Nat → Nat → Int64} {cr wm : Int32} {dn : Bool} (h : ¬ ∀ j, j < 8 → T t j = tl_right E n t j) (hc : cr = 0) : tl_put E n (c + 1) t (T, cr, dn, wm) = (false, (T, -1, true, wm)) := by
  show (if _ then _ else if _ then _ else _) = _
  rw [if_neg h, if_pos hc]
theorem tl_cpy8 {f g : Nat → Int64} {j : Nat} (hj : j < 8) : va_cpy f g 0 0 8 j = f j := by
  rw [pk_cpy_in (Nat.zero_le _) (by omega), Nat.sub_zero, Nat.zero_add]
theorem tl_right_lo {E : Nat → Int64} {n t i : Nat} (h : t < 8) : tl_right E n t i = if t * 8 + i < n then tl_leaf (E (t * 8 + i)) else 0 := if_pos h
theorem tl_right_hi {E : Nat → Int64} {n t i : Nat} (h : 8 ≤ t) : tl_right E n t i = if i * 8 + 8 ≤ n then tl_root E (i * 8) 8 else 0 := if_neg (by omega)
