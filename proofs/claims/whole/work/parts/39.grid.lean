/-! new long[9][8]: the machine's own making of it, and the row for it. -/
def tl_row (cJ : ClassId) : Cell := arrV cJ 8 (fun _ => .long 0)
def tl_out (cG : ClassId) (h i : Nat) : Cell := arrV cG 9 (fun j => if j < i then .ref (h + 1 + j) else .null)
theorem tl_row_sz (cJ : ClassId) : (tl_row cJ).slots.size = 8 := arrV_size _ _ _
theorem tl_out_sz (cG : ClassId) (h i : Nat) : (tl_out cG h i).slots.size = 9 := arrV_size _ _ _
theorem tl_out_0 (cG : ClassId) (h : Nat) : ({ cls := cG, slots := Array.replicate 9 .null, vm := .none } : Cell) = tl_out cG h 0 := by
  rw [arrV_new]
  rfl
theorem tl_row_0 (cJ : ClassId) : ({ cls := cJ, slots := Array.replicate 8 (.long 0), vm := .none } : Cell) = tl_row cJ := by
  rw [arrV_new]
  rfl
theorem tl_out_s (cG : ClassId) (h i : Nat) : (tl_out cG h i).setSlot i (.ref (h + 1 + i)) = tl_out cG h (i + 1) := by
  unfold tl_out
  rw [arrV_store]
  refine congrArg (arrV cG 9) (funext fun j => ?_)
  unfold updV
  by_cases e : j = i
  · rw [if_pos e, if_pos (by omega), e]
  · rw [if_neg e]
    show (if j < i then Value.ref (h + 1 + j) else Value.null) = _
    by_cases l : j < i
    · rw [if_pos l, if_pos (by omega)]
    · rw [if_neg l, if_neg (by omega)]
/-- the state when i rows are made -/
def tl_grow (s : State) (cG cJ : ClassId) : Nat → State
  | 0 => s.pushCell (tl_out cG s.heap.size 0)
  | i + 1 => ((tl_grow s cG cJ i).pushCell (tl_row cJ)).setCell s.heap.size (tl_out cG s.heap.size (i + 1))
theorem tl_grow_f (s : State) (cG cJ : ClassId) (i : Nat) : (tl_grow s cG cJ i).heap.size = s.heap.size + 1 + i ∧ (tl_grow s cG cJ i).heap[s.heap.size]? = some (tl_out cG s.heap.size i) ∧ (tl_grow s cG cJ i).vm = s.vm ∧ (tl_grow s cG cJ i).slotsUsed = s.slotsUsed + 9 + i * 8 := by
  induction i with
  | zero => exact ⟨by simp [tl_grow], by simp [tl_grow], rfl, by simp [tl_grow, tl_out_sz]⟩
  | succ i ih =>
    obtain ⟨h1, h2, h3, h4⟩ := ih
    have hlt : s.heap.size < (tl_grow s cG cJ i).heap.size := by omega
    have hb : ((tl_grow s cG cJ i).pushCell (tl_row cJ)).heap[s.heap.size]? = some (tl_out cG s.heap.size i) := by
      rw [State.heap_pushCell_of_lt (h := hlt)]
      exact h2
    refine ⟨?_, State.heap_setCell_self hb, by simp [tl_grow, h3], ?_⟩
    · simp [tl_grow, State.setCell, h1]
      omega
    · simp [tl_grow, h4, tl_row_sz, Nat.succ_mul]
      omega
theorem tl_grow_top (s : State) (f : JFrame) (cG cJ : ClassId) (i : Nat) : tl_grow (s.setTop f) cG cJ i = (tl_grow s cG cJ i).setTop f := by
  induction i with
  | zero => rfl
  | succ i ih => simp only [tl_grow, ih, State.heap_setTop, State.pushCell_setTop, State.setCell_setTop]
theorem tl_grow_old (s : State) (cG cJ : ClassId) {a : Nat} (ha : a < s.heap.size) (i : Nat) : (tl_grow s cG cJ i).heap[a]? = s.heap[a]? := by
  induction i with
  | zero => exact State.heap_pushCell_of_lt _ _ ha
  | succ i ih =>
    have h1 := (tl_grow_f s cG cJ i).1
    have hlt : a < (tl_grow s cG cJ i).heap.size := by omega
    show (((tl_grow s cG cJ i).pushCell (tl_row cJ)).setCell s.heap.size _).heap[a]? = _
    rw [State.heap_setCell_other (Nat.ne_of_gt ha), State.heap_pushCell_of_lt (h := hlt)]
    exact ih
theorem tl_grow_row (s : State) (cG cJ : ClassId) (i j : Nat) (hj : j < i) : (tl_grow s cG cJ i).heap[s.heap.size + 1 + j]? = some (tl_row cJ) := by
  induction i with
  | zero => exact absurd hj (Nat.not_lt_zero _)
  | succ i ih =>
    have h1 := (tl_grow_f s cG cJ i).1
    show (((tl_grow s cG cJ i).pushCell (tl_row cJ)).setCell s.heap.size _).heap[s.heap.size + 1 + j]? = _
    rw [State.heap_setCell_other (show s.heap.size ≠ s.heap.size + 1 + j by omega)]
    by_cases e : j = i
    · subst e
      rw [← h1]
      exact State.heap_pushCell_size _ _
    · have hlt : s.heap.size + 1 + j < (tl_grow s cG cJ i).heap.size := by omega
      rw [State.heap_pushCell_of_lt (h := hlt)]
      exact ih (by omega)
section TLMW
variable {E : CtlPost} {e : Env} {d : Bool} {acts : List Action} {s : State}
theorem tl_wpNew {c comp : ClassId} {k : Class} {type : FieldType} {n : Nat} {v : Value} (hk : s.vm.classes[c]? = some k) (hkind : k.kind = .array comp type) (hl : ¬ n > e.platform.arrayLengthLimit) (hh : ¬ n * componentBytes type > e.platform.maxHeapBytes) (hf : fits type v = true) (hd : v.isDefault = true) {Q : Addr → Pre}
    (h1 : s.heap.size < e.platform.maxCells) (h2 : s.slotsUsed + n ≤ e.platform.maxSlots) (hq : Q s.heap.size d acts (s.pushCell { cls := c, slots := Array.replicate n v, vm := .none })) : wp (Jvm.newArray c n v) Q E e d acts s := by
  have hfit : ∀ i w, (Array.replicate n v)[i]? = some w → s.fitsSlot c .none i w = true := fun i w hw => by
    rw [Array.getElem?_replicate] at hw
    split at hw
    · cases hw
      simp [State.fitsSlot, State.slotType?, hk, hkind, hf]
    · cases hw
  have hda : allocActs (Array.replicate n v) s.heap.size acts = acts := by
    have ha : ((Array.replicate n v).all (·.isDefault)) = true := by
      rw [Array.all_replicate]
      split <;> simp [hd]
    unfold allocActs
    rw [if_pos ha]
  simp only [Jvm.newArray, Jvm.arrayFits, wp_bind', W.ask, W.ite, hl, if_false, wp_pure', W.theClass, hk, hkind, hh, W.alloc, W.stop, Option.some.injEq, exists_eq_left', Array.size_replicate, hda]
  rw [if_neg (by omega)]
  exact ⟨h1, h2, hfit, hq⟩
theorem tl_wpRow {cJ cc : ClassId} {kJ : Class} (hk : s.vm.classes[cJ]? = some kJ) (hkind : kJ.kind = .array cc .long) (hl : ¬ 8 > e.platform.arrayLengthLimit) (hh : ¬ 8 * componentBytes .long > e.platform.maxHeapBytes) {Q : Addr → Pre}
    (h1 : s.heap.size < e.platform.maxCells) (h2 : s.slotsUsed + 8 ≤ e.platform.maxSlots) (hq : Q s.heap.size d acts (s.pushCell (tl_row cJ))) : wp (multianewarray.make cJ [nI 8]) Q E e d acts s := by
  have h8 : ¬ nI 8 < 0 := by decide
  rw [multianewarray.make]
  simp only [wp_bind', W.ite, h8, if_false, wp_pure', W.theClass, hk, hkind, Option.some.injEq, exists_eq_left']
  have hc : (nI 8).toNatClampNeg = 8 := by decide
  rw [hc]
  refine tl_wpNew hk hkind hl hh rfl rfl h1 h2 ?_
  have e8 : ({ cls := cJ, slots := Array.replicate 8 (defaultValue .long), vm := .none } : Cell) = tl_row cJ := tl_row_0 cJ
  rw [e8]
  exact hq
theorem tl_wpGrid {cG cJ cc : ClassId} {kG kJ : Class} (hkG : s.vm.classes[cG]? = some kG) (hG : kG.kind = .array cJ (.array .long)) (hkJ : s.vm.classes[cJ]? = some kJ) (hJ : kJ.kind = .array cc .long)
    (hl : ¬ 9 > e.platform.arrayLengthLimit) (hh1 : ¬ 9 * componentBytes (.array .long) > e.platform.maxHeapBytes) (hh2 : ¬ 8 * componentBytes .long > e.platform.maxHeapBytes) (hc : s.heap.size + 10 ≤ e.platform.maxCells) (hs : s.slotsUsed + 81 ≤ e.platform.maxSlots)
    {Q : Addr → Pre} (hq : ∀ d' acts', Q s.heap.size d' acts' (tl_grow s cG cJ 9)) : wp (multianewarray.make cG [nI 9, nI 8]) Q E e d acts s := by
  have h9 : ¬ nI 9 < 0 := by decide
  have hfind : ([nI 8].find? (· < 0)) = none := by decide
  have hc9 : (nI 9).toNatClampNeg = 9 := by decide
  rw [multianewarray.make]
  simp only [wp_bind', W.ite, h9, if_false, wp_pure', W.theClass, hkG, hG, Option.some.injEq, exists_eq_left', hc9]
  refine tl_wpNew hkG hG hl hh1 rfl rfl (by omega) (by omega) ?_
  simp only [hfind]
  rw [ite_self, wp_bind', Std.Legacy.Range.forIn_eq_forIn_range']
  have hsz : ([:9] : Std.Legacy.Range).size = 9 := by simp [Std.Legacy.Range.size]
  rw [hsz]
  show wp (forIn (List.range' 0 9 1) PUnit.unit _) _ E e d acts _
  refine wp_forIn_inv (fun rest s' => ∃ i, i ≤ 9 ∧ rest = List.range' i (9 - i) ∧ s' = tl_grow s cG cJ i) _ _ ⟨0, Nat.zero_le _, rfl, ?_⟩ ?_ ?_
  · rw [tl_out_0 cG s.heap.size]
    rfl
  · rintro x rest s' d' acts' Q' ⟨i, hi, hr, rfl⟩ hnext
    have hlt : i < 9 := by
      apply Nat.lt_of_not_le
      intro q
      rw [show 9 - i = 0 by omega] at hr
      simp at hr
    obtain ⟨rfl, hrest⟩ : x = i ∧ rest = List.range' (i + 1) (9 - (i + 1)) := by
      rw [show 9 - i = (9 - (i + 1)) + 1 by omega, List.range'_succ] at hr
      exact ⟨(List.cons.inj hr).1, (List.cons.inj hr).2⟩
    obtain ⟨f1, f2, f3, f4⟩ := tl_grow_f s cG cJ x
    simp only [wp_bind']
    refine tl_wpRow (by rw [f3]; exact hkJ) hJ (by omega) hh2 (by rw [f1]; omega) (by rw [f4]; omega) ?_
    have hlt0 : s.heap.size < (tl_grow s cG cJ x).heap.size := by omega
    simp only [wp_bind', W.writeLoc, wp_pure']
    refine ⟨tl_out cG s.heap.size x, by rw [State.heap_pushCell_of_lt (h := hlt0)]; exact f2, by simp [tl_out, arrV], by rw [tl_out_sz]; exact hlt, ?_, hnext _ _ _ ⟨x + 1, hlt, hrest, ?_⟩⟩
    · simp [State.fitsSlot, State.slotType?, tl_out, arrV, f3, hkG, hG]
      rfl
    · rw [f1, tl_out_s]
      rfl
  · rintro s' d' acts' ⟨i, hi, hr, rfl⟩
    have hi9 : i = 9 := by
      apply Nat.le_antisymm hi
      apply Nat.le_of_not_lt
      intro q
      rw [show 9 - i = (9 - (i + 1)) + 1 by omega, List.range'_succ] at hr
      cases hr
    subst hi9
    simp only [wp_pure']
    exact hq _ _
end TLMW
section TLMS
variable {p : Program} {l : Launch} {e : Env} {R : Room} {s : State} {m : MethodId} {args : Array Value} {below : List Frame} {meth : Method} {c : Code} {T : State} {locs : List Loc} {cells slots : Nat}
theorem tl_stand (X : Stand p l e R s m args below meth c T locs cells slots) (cG cJ : ClassId) (i : Nat) : Stand p l e R s m args below meth c (tl_grow T cG cJ i) (locs ++ (List.range i).map fun j => ⟨T.heap.size, j⟩) (cells + 1 + i) (slots + 9 + i * 8) := by
  induction i with
  | zero =>
    have h := X.pushed (tl_out cG T.heap.size 0)
    rw [tl_out_sz] at h
    simpa [tl_grow] using h
  | succ i ih =>
    obtain ⟨f1, f2, -, -⟩ := tl_grow_f T cG cJ i
    have hlt : T.heap.size < (tl_grow T cG cJ i).heap.size := by omega
    have hcell : ((tl_grow T cG cJ i).pushCell (tl_row cJ)).heap[T.heap.size]? = some (tl_out cG T.heap.size i) := by
      rw [State.heap_pushCell_of_lt (h := hlt)]
      exact f2
    have h := (ih.pushed (tl_row cJ)).stored hcell i (.ref (T.heap.size + 1 + i))
    rw [tl_row_sz, tl_out_s] at h
    have e2 : (locs ++ (List.range (i + 1)).map fun j => (⟨T.heap.size, j⟩ : Loc)) = (locs ++ (List.range i).map fun j => (⟨T.heap.size, j⟩ : Loc)) ++ [⟨T.heap.size, i⟩] := by simp [List.range_succ, List.append_assoc]
    rw [e2, show slots + 9 + (i + 1) * 8 = slots + 9 + i * 8 + 8 by omega]
    exact h
end TLMS
/-- the cells of a new long[9][8] at q -/
def tl_new10 (cG cJ : ClassId) (q : Nat) : va_W := [(q, .inl (cG, 9, .inr (.inr (.inr (.inr (fun t => some (q + 1 + t))))))), (q + 1, .inl (cJ, 8, .inr (.inl (fun _ => 0)))), (q + 2, .inl (cJ, 8, .inr (.inl (fun _ => 0)))), (q + 3, .inl (cJ, 8, .inr (.inl (fun _ => 0)))), (q + 4, .inl (cJ, 8, .inr (.inl (fun _ => 0)))), (q + 5, .inl (cJ, 8, .inr (.inl (fun _ => 0)))), (q + 6, .inl (cJ, 8, .inr (.inl (fun _ => 0)))), (q + 7, .inl (cJ, 8, .inr (.inl (fun _ => 0)))), (q + 8, .inl (cJ, 8, .inr (.inl (fun _ => 0)))), (q + 9, .inl (cJ, 8, .inr (.inl (fun _ => 0))))]
theorem tl_new10_a (cG cJ : ClassId) (q : Nat) : (tl_new10 cG cJ q).map (fun x => x.1) = (List.range 10).map (fun k => q + k) := rfl
theorem tl_new10_r (cG cJ : ClassId) (q : Nat) {k : Nat} (hk : k < 9) : (tl_new10 cG cJ q)[k + 1]? = some (q + 1 + k, .inl (cJ, 8, .inr (.inl (fun _ => 0)))) := by
  rcases (show k = 0 ∨ k = 1 ∨ k = 2 ∨ k = 3 ∨ k = 4 ∨ k = 5 ∨ k = 6 ∨ k = 7 ∨ k = 8 by omega) with rfl | rfl | rfl | rfl | rfl | rfl | rfl | rfl | rfl <;> simp [tl_new10, Nat.add_assoc]
theorem tl_new10_P {D : va_G} {cl : List vw_C} {F : State} {cG cJ : ClassId} {U : State} (hF : F = tl_grow U cG cJ 9) : va_P D cl (tl_new10 cG cJ U.heap.size) F.heap := by
  subst hF
  intro k x hx
  obtain ⟨hk, -⟩ := tl_Dkey (tl_new10_a cG cJ U.heap.size) hx
  by_cases e : k = 0
  · subst e
    have h1 : x = (U.heap.size, .inl (cG, 9, .inr (.inr (.inr (.inr (fun t => some (U.heap.size + 1 + t))))))) := (Option.some.inj hx).symm
    subst h1
    show (tl_grow U cG cJ 9).heap[U.heap.size]? = some (vp_cell _ _)
    rw [(tl_grow_f U cG cJ 9).2.1, vp_cell_q]
    unfold tl_out arrV
    congr 2
  · obtain ⟨j, rfl⟩ : ∃ j, k = j + 1 := ⟨k - 1, by omega⟩
    rw [tl_new10_r cG cJ U.heap.size (by omega)] at hx
    cases hx
    show (tl_grow U cG cJ 9).heap[U.heap.size + 1 + j]? = some (vp_cell _ _)
    rw [tl_grow_row U cG cJ 9 j (by omega), vp_cell_l]
    rfl
section TLMN
variable {p : Program} {l : Launch} {e : Env} {R : Room} {s : State} {m : MethodId} {args : Array Value} {below : List Frame} {meth : Method} {c : Code} {H : Heap} {locs : List Loc} {cells slots : Nat} {Q : State → Prop}
variable {cc : ByteArray} {pc : Nat} {ls : Array Slot} {rest : List Value} {D : va_G} {cl : List vw_C} {A : Nat → Prop} {tys : List (ClassId × FieldType)} {ws : va_W} {H0 : Heap}
theorem tl_mna (hexec : p.tables.exec = Jvm.exec) (hb : c.code = cc) {own : String} {index : Nat} (hown : s.vm.findClass own = some m.cls) (hclink : (Cond.classLink own index "[[J").before args s = true) (hG : tl_G2 s) (harr : (Cond.arrayClass .long).before args s = true)
    (hK : va_K D cl tys s) (hP : va_P D cl ws H) (hD : va_D A ws) (hS : va_S A H0 H locs) (hA : ∀ q, H0.size ≤ q → A q) (hcells : cells + 10 ≤ R.cells) (hslots : slots + 81 ≤ R.slots) (hdg : decode cc pc = .ok (.multianewarray index 2, 4))
    (kk : ∀ (q : Nat) (cG cJ : ClassId) (H1 : Heap) (locs1 : List Loc), va_K D cl (tys ++ [(cG, .array .long), (cJ, .long)]) s → va_P D cl (ws ++ tl_new10 cG cJ q) H1 → va_D A (ws ++ tl_new10 cG cJ q) → va_S A H0 H1 locs1 → W p l e R s m args below meth c H1 locs1 (cells + 10) (slots + 81) Q (F0 m (pc + 4) ls (.ref q :: rest))) :
    W p l e R s m args below meth c H locs cells slots Q (F0 m pc ls (.int (nI 8) :: .int (nI 9) :: rest)) := by
  intro T hT X
  have hpl : e.platform.magicAccessors = ({} : Platform).magicAccessors := by rw [X.admits.platform]
  obtain ⟨comp, cG, kG, hcomp, hkG, hkindG, hnameG⟩ := hG
  obtain ⟨cJ, kJ, cc2, hnJ, hkJ, hkindJ⟩ := Cond.arrayClass_spec harr
  have ecomp : cJ = comp := Option.some.inj (hnJ.symm.trans hcomp)
  subst ecomp
  have hclink2 : (Cond.classLink own index ("[" ++ (FieldType.array .long).toString)).before args s = true := hclink
  obtain ⟨c0, hfc0, hcl⟩ := Cond.classLink_spec hown hclink2 e.platform hpl
  cases hnameG.symm.trans hfc0
  obtain ⟨hg₁, hwarm₁, hready₁⟩ := State.classEntry (e := e) X.warmed hcl
  generalize T.vm.noted m.cls index (.cls cG) = vm₁ at hg₁ hwarm₁ hready₁
  have hal : s.vm.Alike vm₁ := hwarm₁.alike
  obtain ⟨kG₁, hkG₁, heG⟩ := hal.2.2 _ _ hkG
  obtain ⟨kJ₁, hkJ₁, heJ⟩ := hal.2.2 _ _ hkJ
  have hkindG₁ : kG₁.kind = .array cJ (.array .long) := by rw [heG]; exact hkindG
  have hkindJ₁ : kJ₁.kind = .array cc2 .long := by rw [heJ]; exact hkindJ
  have X₁ := X.noted hwarm₁
  have hr := X.roomAbove hcells hslots
  have XF := tl_stand X₁ cG cJ 9
  have hTh : (T.setVm vm₁).heap = H := hT
  obtain ⟨f1, f2, f3, f4⟩ := tl_grow_f (T.setVm vm₁) cG cJ 9
  have hold : ∀ x : Nat, x < H.size → (tl_grow (T.setVm vm₁) cG cJ 9).heap[x]? = H[x]? := fun x hx => by
    rw [tl_grow_old (T.setVm vm₁) cG cJ (by rw [hTh]; exact hx) 9, hTh]
  have hPn : va_P D cl (tl_new10 cG cJ (T.setVm vm₁).heap.size) (tl_grow (T.setVm vm₁) cG cJ 9).heap := tl_new10_P rfl
  rw [hTh] at hPn f1
  have hPo : va_P D cl ws (tl_grow (T.setVm vm₁) cG cJ 9).heap := hP.kept (fun k x hx => hold x.1 ((hP k x hx).lt))
  have hDn : va_D A (tl_new10 cG cJ H.size) := by
    refine ⟨fun i j x y hi hj hxy => ?_, fun k x hx => ?_⟩
    · have h1 := (tl_Dkey (tl_new10_a cG cJ H.size) hi).2
      have h2 := (tl_Dkey (tl_new10_a cG cJ H.size) hj).2
      omega
    · have h1 := (tl_Dkey (tl_new10_a cG cJ H.size) hx).2
      exact hA _ (by have := hS.1; omega)
  have hDa : va_D A (ws ++ tl_new10 cG cJ H.size) := hD.app hDn (fun i j x y hi hj hxy => by
    have h1 := (hP i x hi).lt
    have h2 := (tl_Dkey (tl_new10_a cG cJ H.size) hj).2
    omega)
  have hKa : va_K D cl (tys ++ [(cG, .array .long), (cJ, .long)]) s := hK.app ⟨hK.1, fun k x hx => by
    have hk : k < 2 := (List.getElem?_eq_some_iff.mp hx).1
    rcases (show k = 0 ∨ k = 1 by omega) with rfl | rfl
    · cases hx
      exact ⟨fun n z => ⟨fun k h => (by cases h), kG, hkG, cJ, hkindG⟩, hnameG⟩
    · cases hx
      exact ⟨fun n z => ⟨fun k h => (by cases h), kJ, hkJ, cc2, hkindJ⟩, hnJ⟩⟩
  have hTs : T.heap.size = H.size := by rw [hT]
  have hSa : va_S A H0 (tl_grow (T.setVm vm₁) cG cJ 9).heap (locs ++ (List.range 9).map fun j => ⟨(T.setVm vm₁).heap.size, j⟩) := by
    refine ⟨by have := hS.1; omega, fun x h1 h2 => ?_, fun q hq => ?_⟩
    · rw [hold x (by have := hS.1; omega)]
      exact hS.2.1 x h1 h2
    · rcases List.mem_append.mp hq with h | h
      · exact hS.2.2 q h
      · obtain ⟨j, -, rfl⟩ := List.mem_map.mp h
        exact hA _ (by show H0.size ≤ (T.setVm vm₁).heap.size; rw [hTh]; exact hS.1)
  obtain ⟨t, a1, b1⟩ := kk H.size cG cJ _ _ hKa (hPo.app hPn) hDa hSa (tl_grow (T.setVm vm₁) cG cJ 9) rfl XF
  refine ⟨t, ?_, b1⟩
  have hl1 : ¬ 9 > e.platform.arrayLengthLimit := by rw [Launch.admits_arrayLengthLimit X.admits]; omega
  have hh1 : ¬ 9 * componentBytes (.array .long) > e.platform.maxHeapBytes := by
    rw [Launch.admits_maxHeapBytes X.admits]; decide
  have hh2 : ¬ 8 * componentBytes .long > e.platform.maxHeapBytes := by rw [Launch.admits_maxHeapBytes X.admits]; decide
  obtain ⟨hr1, hr2⟩ := hr
  jvm_step X.here [hexec, hb, hdg]
  simp only [multianewarray.sem, wp_bind', W.resolveClassAt_links (State.method?_setTop (F0 m pc ls (.int (nI 8) :: .int (nI 9) :: rest)) X.here.top) hg₁]
  rw [W.popN, if_neg (by decide)]
  refine ⟨F0 m pc ls (.int (nI 8) :: .int (nI 9) :: rest), State.topJava?_setTop' (s := T.setVm vm₁) _ X.here.top, [.int (nI 9), .int (nI 8)], rest, rfl, rfl, ?_⟩
  simp only [List.mapM_cons, List.mapM_nil, wp_bind', wp_pure']
  refine tl_wpGrid (kG := kG₁) (kJ := kJ₁) (cJ := cJ) (cc := cc2) hkG₁ hkindG₁ hkJ₁ hkindJ₁ hl1 hh1 hh2 (by show T.heap.size + 10 ≤ _; omega) (by show T.slotsUsed + 81 ≤ _; omega) (fun d' acts' => ?_)
  have eS : ((T.setTop (F0 m pc ls (.int (nI 8) :: .int (nI 9) :: rest))).setVm vm₁).setTop (F0 m pc ls rest) = (T.setVm vm₁).setTop (F0 m pc ls rest) := by
    show ((T.setVm vm₁).setTop _).setTop _ = _
    rw [State.setTop_setTop]
  rw [eS, tl_grow_top]
  simp only [wp_bind', W.mark, W.pushRef, State.topJava?_setTop' _ XF.here.top, Option.some.injEq, exists_eq_left', State.setTop_setTop, State.heap_setTop]
  intro acts
  simp [jvm, XF.here.top]
  rw [hTs]
  exact a1
end TLMN
