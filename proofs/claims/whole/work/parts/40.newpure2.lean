/-! A new Disk's cells in their order. -/
def tl_DL (cJ cI cG : ClassId) (f : Nat → Nat) : va_W :=
  [(f 0, .inr (1, [.ref (f 1), .ref (f 2), .ref (f 3), .ref (f 4), .ref (f 5), .ref (f 6), .int 0, .int 0, .int (-1), .int 0])),
   (f 1, .inl (cJ, 64, .inr (.inl (fun _ => 0)))), (f 2, .inl (cG, 9, .inr (.inr (.inr (.inr (fun t => some (f (7 + t)))))))), (f 3, .inl (cI, 2, .inl (fun _ => 0))), (f 4, .inl (cI, 2, .inl (fun _ => 0))), (f 5, .inl (cJ, 2, .inr (.inl (fun _ => 0)))), (f 6, .inl (cJ, 8, .inr (.inl (fun _ => 0)))),
   (f 7, .inl (cJ, 8, .inr (.inl (fun _ => 0)))), (f 8, .inl (cJ, 8, .inr (.inl (fun _ => 0)))), (f 9, .inl (cJ, 8, .inr (.inl (fun _ => 0)))), (f 10, .inl (cJ, 8, .inr (.inl (fun _ => 0)))), (f 11, .inl (cJ, 8, .inr (.inl (fun _ => 0)))), (f 12, .inl (cJ, 8, .inr (.inl (fun _ => 0)))), (f 13, .inl (cJ, 8, .inr (.inl (fun _ => 0)))), (f 14, .inl (cJ, 8, .inr (.inl (fun _ => 0)))), (f 15, .inl (cJ, 8, .inr (.inl (fun _ => 0))))]
/-- k below n out of a list, from n on g -/
def tl_ads (L : List Nat) (n : Nat) (g : Nat → Nat) (k : Nat) : Nat := if k < n then L.getD k 0 else g (k - n)
theorem tl_ads_hi {L : List Nat} {n : Nat} {g : Nat → Nat} (t : Nat) : tl_ads L n g (n + t) = g t := by
  unfold tl_ads
  rw [if_neg (by omega), Nat.add_sub_cancel_left]
theorem tl_ap_of {A : Nat → Prop} {ws : va_W} {f : Nat → Nat} {k : Nat} (hD : va_D A ws) (h : ws.map (fun q => q.1) = (List.range k).map f) : tl_ap f k ∧ ∀ i, i < k → A (f i) := by
  have key : ∀ i, i < k → ∃ p : Nat × va_E, ws[i]? = some p ∧ p.1 = f i := fun i hi => by
    have h1 : (ws.map (fun q => q.1))[i]? = some (f i) := by rw [h, List.getElem?_map, List.getElem?_range hi]; rfl
    rw [List.getElem?_map] at h1
    cases hq : ws[i]? with
    | none => rw [hq] at h1; cases h1
    | some p => rw [hq] at h1; exact ⟨p, rfl, Option.some.inj h1⟩
  refine ⟨fun i j hi hj hij => ?_, fun i hi => ?_⟩
  · obtain ⟨p, h1, h2⟩ := key i hi
    obtain ⟨q, h3, h4⟩ := key j hj
    exact hD.1 i j p q h1 h3 (by rw [h2, h4, hij])
  · obtain ⟨p, h1, h2⟩ := key i hi
    rw [← h2]
    exact hD.2 i p h1
