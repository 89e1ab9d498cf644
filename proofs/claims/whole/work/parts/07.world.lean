/-! The worlds: the class's 19 cells at the addresses ad, the reference's 11 at bd. -/
def tl_ap (ad : Nat → Nat) (k : Nat) : Prop := ∀ i j, i < k → j < k → ad i = ad j → i = j
def tl_in (ad : Nat → Nat) (k : Nat) : Nat → Prop := fun q => ∃ i, i < k ∧ q = ad i
theorem tl_Dkey {ad : Nat → Nat} {k : Nat} {ws : va_W} (h : ws.map (fun q => q.1) = (List.range k).map ad) {i : Nat} {p : Nat × va_E} (hp : ws[i]? = some p) : i < k ∧ p.1 = ad i := by
  have h1 : (ws.map (fun q => q.1))[i]? = some p.1 := by rw [List.getElem?_map, hp]; rfl
  rw [h, List.getElem?_map] at h1
  by_cases hi : i < k
  · rw [List.getElem?_range hi] at h1
    exact ⟨hi, (Option.some.inj h1).symm⟩
  · rw [List.getElem?_eq_none (by rw [List.length_range]; omega)] at h1
    cases h1
theorem tl_Dof {ad : Nat → Nat} {k : Nat} (hap : tl_ap ad k) {ws : va_W} (h : ws.map (fun q => q.1) = (List.range k).map ad) : va_D (tl_in ad k) ws := by
  refine ⟨fun i j p q hi hj hpq => ?_, fun i p hi => ?_⟩
  · obtain ⟨h1, h2⟩ := tl_Dkey h hi
    obtain ⟨h3, h4⟩ := tl_Dkey h hj
    exact hap i j h1 h3 (by rw [← h2, ← h4, hpq])
  · obtain ⟨h1, h2⟩ := tl_Dkey h hi
    exact ⟨i, h1, h2⟩
def tl_W (cJ cI cG : ClassId) (ad : Nat → Nat) (E : Nat → Int64) (nf : Nat) (T : Nat → Nat → Int64) (hn hs : Nat → Int32) (rt : Nat → Int64) (dn : Bool) (wm cr : Int32) (pf : Nat → Int64) (pl : Nat) (O : Nat → Int64) (ol : Nat) (r8 : Nat → Int64) : va_W :=
  [(ad 0, .inr (0, [.ref (ad 1), .ref (ad 2), .int (nI pl), .ref (ad 3), .int (nI ol)])),
   (ad 1, .inr (1, [.ref (ad 4), .ref (ad 5), .ref (ad 6), .ref (ad 7), .ref (ad 8), .ref (ad 9), .int (nI nf), .int wm, .int cr, .int (tl_bi dn)])),
   (ad 2, .inl (cJ, 7, .inr (.inl pf))), (ad 3, .inl (cJ, 8, .inr (.inl O))), (ad 4, .inl (cJ, 64, .inr (.inl E))),
   (ad 5, .inl (cG, 9, .inr (.inr (.inr (.inr (fun t => some (ad (10 + t)))))))),
   (ad 6, .inl (cI, 2, .inl hn)), (ad 7, .inl (cI, 2, .inl hs)), (ad 8, .inl (cJ, 2, .inr (.inl rt))), (ad 9, .inl (cJ, 8, .inr (.inl r8))),
   (ad 10, .inl (cJ, 8, .inr (.inl (T 0)))), (ad 11, .inl (cJ, 8, .inr (.inl (T 1)))), (ad 12, .inl (cJ, 8, .inr (.inl (T 2)))),
   (ad 13, .inl (cJ, 8, .inr (.inl (T 3)))), (ad 14, .inl (cJ, 8, .inr (.inl (T 4)))), (ad 15, .inl (cJ, 8, .inr (.inl (T 5)))),
   (ad 16, .inl (cJ, 8, .inr (.inl (T 6)))), (ad 17, .inl (cJ, 8, .inr (.inl (T 7)))), (ad 18, .inl (cJ, 8, .inr (.inl (T 8))))]
def tl_V (cJ cI cZ : ClassId) (bd : Nat → Nat) (E : Nat → Int64) (nf : Nat) (tf : Nat → Int64) (hn hs : Nat → Int32) (rt : Nat → Int64) (dn : Bool) (wm cr : Int32) (cd : Bool) (pf : Nat → Int64) (pl : Nat) (O : Nat → Int64) (ol : Nat) (rw : Nat → Int64) (rl : Nat) (wh : Nat → Int64) (th : Nat → Int32) : va_W :=
  [(bd 0, .inr (2, [.int (nI nf), .ref (bd 1), .ref (bd 2), .ref (bd 3), .ref (bd 4), .ref (bd 5), .int (tl_bi dn), .int wm, .int cr, .int (tl_bi cd), .int (nI pl), .ref (bd 6), .int (nI ol), .ref (bd 7), .int (nI rl), .ref (bd 8), .ref (bd 9), .ref (bd 10)])),
   (bd 1, .inl (cJ, 64, .inr (.inl E))), (bd 2, .inl (cJ, 72, .inr (.inl tf))), (bd 3, .inl (cI, 2, .inl hn)), (bd 4, .inl (cI, 2, .inl hs)), (bd 5, .inl (cJ, 2, .inr (.inl rt))),
   (bd 6, .inl (cJ, 16, .inr (.inl pf))), (bd 7, .inl (cJ, 8, .inr (.inl O))), (bd 8, .inl (cJ, 9, .inr (.inl rw))), (bd 9, .inl (cJ, 8, .inr (.inl wh))), (bd 10, .inl (cZ, 8, .inl th))]
section TLD
variable {cJ cI cG cZ : ClassId} {ad bd : Nat → Nat} {E : Nat → Int64} {nf : Nat} {T : Nat → Nat → Int64} {tf : Nat → Int64} {hn hs : Nat → Int32} {rt : Nat → Int64} {dn : Bool} {wm cr : Int32} {cd : Bool} {pf : Nat → Int64} {pl : Nat} {O : Nat → Int64} {ol : Nat} {r8 : Nat → Int64} {rw : Nat → Int64} {rl : Nat} {wh : Nat → Int64} {th : Nat → Int32}
theorem tl_DW (hap : tl_ap ad 19) : va_D (tl_in ad 19) (tl_W cJ cI cG ad E nf T hn hs rt dn wm cr pf pl O ol r8) := tl_Dof hap rfl
theorem tl_DV (hap : tl_ap bd 11) : va_D (tl_in bd 11) (tl_V cJ cI cZ bd E nf tf hn hs rt dn wm cr cd pf pl O ol rw rl wh th) := tl_Dof hap rfl
theorem tl_Wt {t : Nat} (ht : t < 9) : (tl_W cJ cI cG ad E nf T hn hs rt dn wm cr pf pl O ol r8)[10 + t]? = some (ad (10 + t), .inl (cJ, 8, .inr (.inl (T t)))) := by
  rcases (show t = 0 ∨ t = 1 ∨ t = 2 ∨ t = 3 ∨ t = 4 ∨ t = 5 ∨ t = 6 ∨ t = 7 ∨ t = 8 by omega) with rfl | rfl | rfl | rfl | rfl | rfl | rfl | rfl | rfl <;> rfl
end TLD
/-- contents that agree within the length are the same -/
theorem tl_cellL {cA : ClassId} {n : Nat} {f g : Nat → Int64} (h : ∀ j, j < n → f j = g j) : vp_cell cA (n, .inr (.inl f)) = vp_cell cA (n, .inr (.inl g)) := by
  rw [vp_cell_l, vp_cell_l]
  unfold arrV
  congr 1
  apply Array.ext
  · simp
  · intro i h1 h2
    simp only [Array.getElem_ofFn]
    rw [h i (by simpa using h1)]
theorem tl_cellI {cA : ClassId} {n : Nat} {f g : Nat → Int32} (h : ∀ j, j < n → f j = g j) : vp_cell cA (n, .inl f) = vp_cell cA (n, .inl g) := by
  rw [vp_cell_i, vp_cell_i]
  unfold arrV
  congr 1
  apply Array.ext
  · simp
  · intro i h1 h2
    simp only [Array.getElem_ofFn]
    rw [h i (by simpa using h1)]
