/-! What the law's walk needs: pictures that stay, the latest head's number, the start. -/
def tl_lat (S : tl_S) : Nat := S.2.2.2.1
theorem tl_lat_append (x : Int64) (S : tl_S) : tl_lat (tl_append x S).2 ≤ tl_lat S + 1 := by
  obtain ⟨E, nf, T, L, sz, rt, dn, wm, cr, Lp, ol, O⟩ := S
  unfold tl_append
  dsimp only
  split
  · exact Nat.le_succ _
  · split
    · split <;> exact Nat.le_succ _
    · exact Nat.le_succ _
theorem tl_lat_publish (S : tl_S) : tl_lat (tl_publish S).2 ≤ tl_lat S + 1 := by
  obtain ⟨E, nf, T, L, sz, rt, dn, wm, cr, Lp, ol, O⟩ := S
  unfold tl_publish
  dsimp only
  split
  · exact Nat.le_succ _
  · split
    · exact Nat.le_succ _
    · unfold tl_pubR
      dsimp only
      split
      · split
        · exact Nat.le_succ _
        · exact Nat.le_refl _
      · exact Nat.le_succ _
theorem tl_lat_order (x : Int32) (S : tl_S) : tl_lat (tl_order x S).2 ≤ tl_lat S + 1 := by
  obtain ⟨E, nf, T, L, sz, rt, dn, wm, cr, Lp, ol, O⟩ := S
  unfold tl_order
  dsimp only
  split
  · exact Nat.le_succ _
  · split <;> exact Nat.le_succ _
theorem tl_lat_recover (S : tl_S) : tl_lat (tl_recover S).2 ≤ tl_lat S + 1 := by
  obtain ⟨E, nf, T, L, sz, rt, dn, wm, cr, Lp, ol, O⟩ := S
  unfold tl_recover
  dsimp only
  split
  · unfold tl_recR
    dsimp only
    split <;> exact Nat.le_succ _
  · exact Nat.le_succ _
theorem tl_lat_include (m k : Int32) (S : tl_S) : tl_lat (tl_include m k S).2 ≤ tl_lat S + 1 := by
  obtain ⟨E, nf, T, L, sz, rt, dn, wm, cr, Lp, ol, O⟩ := S
  unfold tl_include
  dsimp only
  repeat' split
  all_goals exact Nat.le_succ _
theorem tl_lat_extend (m k : Int32) (S : tl_S) : tl_lat (tl_extend m k S).2 ≤ tl_lat S + 1 := by
  obtain ⟨E, nf, T, L, sz, rt, dn, wm, cr, Lp, ol, O⟩ := S
  unfold tl_extend
  dsimp only
  repeat' split
  all_goals exact Nat.le_succ _
theorem tl_lat_offer (x : Int32) (h : Int64) (S : tl_S) : tl_lat (tl_offer x h S).2 ≤ tl_lat S + 1 := by
  obtain ⟨E, nf, T, L, sz, rt, dn, wm, cr, Lp, ol, O⟩ := S
  unfold tl_offer
  dsimp only
  repeat' split
  all_goals exact Nat.le_succ _
theorem tl_lat_offers (x : Int32) (S : tl_S) : tl_lat (tl_offers x S).2 ≤ tl_lat S + 1 := by
  obtain ⟨E, nf, T, L, sz, rt, dn, wm, cr, Lp, ol, O⟩ := S
  unfold tl_offers
  dsimp only
  repeat' split
  all_goals exact Nat.le_succ _
section TLKept
variable {D : va_G} {cJ cI cG cZ : ClassId} {ad bd : Nat → Nat} {S : tl_S} {H H1 : Heap}
theorem tl_kept {cl : List vw_C} {ws : va_W} {f : Nat → Nat} {k : Nat} {A : Nat → Prop} (hw : ws.map (fun q => q.1) = (List.range k).map f) (hP : va_P D cl ws H) (hA : ∀ i, i < k → ¬ A (f i)) (hk : ∀ q : Nat, q < H.size → ¬ A q → H1[q]? = H[q]?) : va_P D cl ws H1 :=
  hP.kept (fun i x hx => by
    obtain ⟨h1, h2⟩ := tl_Dkey hw hx
    exact hk x.1 ((hP i x hx).lt) (by rw [h2]; exact hA i h1))
theorem tl_X_kept (hX : tl_X D cJ cI cG ad S H) (hdj : ∀ i, i < 19 → ∀ j, j < 11 → ad i ≠ bd j) (hk : ∀ q : Nat, q < H.size → ¬ tl_in bd 11 q → H1[q]? = H[q]?) : tl_X D cJ cI cG ad S H1 := by
  obtain ⟨E, nf, T, L, sz, rt, dn, wm, cr, Lp, ol, O⟩ := S
  obtain ⟨hn, hs, pf, pl, r8, hH, hP⟩ := hX
  exact ⟨hn, hs, pf, pl, r8, hH, tl_kept (k := 19) (f := ad) rfl hP (fun i hi q => by obtain ⟨j, hj, e⟩ := q; exact hdj i hi j hj e) hk⟩
theorem tl_Y_kept (hY : tl_Y D cJ cI cZ bd S H) (hdj : ∀ i, i < 19 → ∀ j, j < 11 → ad i ≠ bd j) (hk : ∀ q : Nat, q < H.size → ¬ tl_in ad 19 q → H1[q]? = H[q]?) : tl_Y D cJ cI cZ bd S H1 := by
  obtain ⟨E, nf, T, L, sz, rt, dn, wm, cr, Lp, ol, O⟩ := S
  obtain ⟨tf, hn, hs, cd, pf, pl, rw, rl, wh, th, hG, hP⟩ := hY
  exact ⟨tf, hn, hs, cd, pf, pl, rw, rl, wh, th, hG, tl_kept (k := 11) (f := bd) rfl hP (fun i hi q => by obtain ⟨j, hj, e⟩ := q; exact hdj j hj i hi e.symm) hk⟩
end TLKept
theorem tl_num0 (p : Nat) : tl_num 0 p = 0 := by unfold tl_num; split <;> rfl
theorem tl_H0 : tl_H 0 (fun _ => 0) (fun _ => 0) 0 (fun _ => 0) (fun _ => 0) 0 [] 0 := ⟨by decide, by decide, fun p _ => by rw [tl_num0]; rfl, fun _ _ => rfl, fun _ _ => Nat.le_refl _, rfl, fun i hi => absurd hi (Nat.not_lt_zero _), by decide, by decide⟩
theorem tl_lead_new : tl_lat tl_new = 0 := rfl
/-- two ints as the law makes a long of them -/
def tl_lg (a b : Int32) : Int64 := (a.toInt64 <<< ((nI 32).toInt64 &&& 63)) ||| (b.toInt64 &&& 4294967295)
/-- what stands throughout the law's walk -/
def tl_Law (p : Program) (s : State) (m : MethodId) (meth : Method) (c : Code) (b L : Nat) (xs : Nat → Int32) (D : va_G) (cJ cI cG cZ : ClassId) (ad bd : Nat → Nat) : Prop :=
  p.tables.exec = Jvm.exec ∧ c.code = code ∧ c.maxLocals = 4 ∧ s.vm.findClass R_L = some m.cls ∧ (∀ w ∈ tl_ws, w.before #[Value.ref b] s = true) ∧ va_X b L xs s s.heap ∧ b < s.heap.size ∧ tl_E D cJ cI cG cZ s ∧ tl_ap ad 19 ∧ tl_ap bd 11 ∧ (∀ i, i < 19 → ∀ j, j < 11 → ad i ≠ bd j) ∧ (∀ q, tl_in ad 19 q → s.heap.size ≤ q) ∧ ∀ q, tl_in bd 11 q → s.heap.size ≤ q
section TLSL
variable {p : Program} {l : Launch} {e : Env} {R : Room} {s : State} {m : MethodId} {args : Array Value} {below : List Frame} {meth : Method} {c : Code} {H : Heap} {locs : List Loc} {cells slots : Nat} {Q : State → Prop} {cc : ByteArray} {pc : Nat} {ls : Array Slot} {rest : List Value}
theorem tl_sld (hexec : p.tables.exec = Jvm.exec) (hb : c.code = cc) {b L a : Nat} {xs : Nat → Int32} (hX : va_X b L xs s s.heap) (hbl : b < s.heap.size) (hS : va_S (fun q => s.heap.size ≤ q) s.heap H locs) (ha : a < L) (hL : L ≤ 3584) (hdg : decode cc pc = .ok (.iaload, 1))
    (kk : W p l e R s m args below meth c H locs cells slots Q (F0 m (pc + 1) ls (.int (xs a) :: rest))) : W p l e R s m args below meth c H locs cells slots Q (F0 m pc ls (.int (nI a) :: .ref b :: rest)) := by
  refine va_sld hexec hb hX hbl (Nat.not_le.mpr hbl) hS (vp_in_nI ha (by omega)) hdg ?_
  rw [nI_clamp (by omega)]
  exact kk
end TLSL
