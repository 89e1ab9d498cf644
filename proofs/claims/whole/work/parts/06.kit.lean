/-! What every method is called with: the classes' tables, the nest mates' words; calls. -/
abbrev tl_cl : List vw_C := [(R_T, F_T, 5), (R_D, F_D, 10), (R_M, F_M, 18)]
def tl_ty (cJ cI cG cZ : ClassId) : List (ClassId × FieldType) := [(cJ, .long), (cI, .int), (cG, .array .long), (cZ, .boolean)]
def tl_N (U : State) : Prop := (∀ q ∈ tl_nf, va_Nw (.fieldLinkNest q.1 q.2.1 q.2.2.1 q.2.2.2.1 q.2.2.2.2.1 q.2.2.2.2.2) U) ∧ ∀ q ∈ tl_nm, va_Nw (.methodLinkNest q.1 q.2.1 q.2.2.1 q.2.2.2) U
theorem tl_N.warm {s U : State} (hW : s.WarmedH U.vm) (h : tl_N s) : tl_N U := ⟨fun q hq => (h.1 q hq).warmF hW, fun q hq => (h.2 q hq).warmM hW⟩
theorem tl_N.same {u U : State} (hv : u.vm = U.vm) (h : tl_N u) : tl_N U := ⟨fun q hq => (h.1 q hq).same rfl hv, fun q hq => (h.2 q hq).same rfl hv⟩
theorem tl_N.f {U : State} (h : tl_N U) (i : Nat) {q : String × Nat × String × String × String × String} (hq : tl_nf[i]? = some q) {A : Array Value} : (Cond.fieldLinkNest q.1 q.2.1 q.2.2.1 q.2.2.2.1 q.2.2.2.2.1 q.2.2.2.2.2).before A U = true := va_Nw.use rfl (h.1 q (List.mem_of_getElem? hq))
theorem tl_N.m {U : State} (h : tl_N U) (i : Nat) {q : String × Nat × MethodName × String} (hq : tl_nm[i]? = some q) : va_Nw (.methodLinkNest q.1 q.2.1 q.2.2.1 q.2.2.2) U := h.2 q (List.mem_of_getElem? hq)
def tl_E (D : va_G) (cJ cI cG cZ : ClassId) (U : State) : Prop := va_K D tl_cl (tl_ty cJ cI cG cZ) U ∧ tl_N U
/-- a method's start: its arguments, the tables, a picture of the heap -/
def tl_Pc (D : va_G) (cJ cI cG cZ : ClassId) (av : List Value) (X : Heap → Prop) : Array Value → State → Prop := va_Pc av (fun U => tl_E D cJ cI cG cZ U ∧ X U.heap)
section TLK
variable {D : va_G} {cJ cI cG cZ : ClassId} {s : State} {H : Heap} {X : Heap → Prop} {As : List Value}
theorem tl_blind : FrameBlind (tl_Pc D cJ cI cG cZ As X) := fun a U g mk q => ⟨q.1, ⟨va_K.moved (u := U) (U := U.calling g mk a) (Vm.Alike.refl U.vm) q.2.1.1, tl_N.same (u := U) (U := U.calling g mk a) rfl q.2.1.2⟩, q.2.2⟩
theorem tl_preS (hE : tl_E D cJ cI cG cZ s) (hX : X H) : PreS s H (tl_Pc D cJ cI cG cZ As X) As := ⟨tl_blind, fun U hU hW => ⟨rfl, ⟨va_K.moved hW.alike hE.1, hE.2.warm hW⟩, by rw [hU]; exact hX⟩⟩
theorem tl_preV {C : String} {b : Nat} (hE : tl_E D cJ cI cG cZ s) (hX : X H) (hr : ∃ cell : Cell, H[b]? = some cell ∧ cell.vm.isStatics = false ∧ s.vm.findClass C = some cell.cls) : PreV s H C b (tl_Pc D cJ cI cG cZ (.ref b :: As) X) As := ⟨tl_blind, hr, fun U hU hW => ⟨rfl, ⟨va_K.moved hW.alike hE.1, hE.2.warm hW⟩, by rw [hU]; exact hX⟩⟩
end TLK
section TLC
variable {R : Room} {s : State} {args : Array Value} {own : String} {index n maxL mc ms : Nat} {y : MethodName} {bytes : ByteArray} {ret : Option FieldType} {rm : Room}
theorem tl_cB (hw : ∀ w ∈ tl_ws, w.before args s = true) (hc : (.code y bytes maxL ret : Cond) ∈ tl_ws) (hini : (.initialized y.cls : Cond) ∈ tl_ws) (hl : (.methodLink own index y : Cond) ∈ tl_ws) (hd : y.cls ≠ "java/lang/invoke/MethodHandle" ∧ y.cls ≠ "java/lang/invoke/VarHandle" ∧ (parseMethodDescriptor y.desc).map (fun d => d.parameters.length) = some n)
    (hrc : rm.cells = mc) (hrs : rm.slots = ms) (hR : rm.frames + 1 ≤ R.frames ∧ 8 + (maxL + 11) + rm.locals ≤ R.locals) : CallB R s args own index y bytes maxL ret (.code y bytes maxL ret :: tl_ws) rm mc ms n :=
  callB_of n hw (tl_good hc) rfl hrc hrs (hw _ hini) (hw _ hl) hd hR
theorem tl_cN {host : String} (hw : ∀ w ∈ tl_ws, w.before args s = true) (hc : (.code y bytes maxL ret : Cond) ∈ tl_ws) (hini : (.initialized y.cls : Cond) ∈ tl_ws) (hl : va_Nw (.methodLinkNest own index y host) s) (hd : y.cls ≠ "java/lang/invoke/MethodHandle" ∧ y.cls ≠ "java/lang/invoke/VarHandle" ∧ (parseMethodDescriptor y.desc).map (fun d => d.parameters.length) = some n)
    (hrc : rm.cells = mc) (hrs : rm.slots = ms) (hR : rm.frames + 1 ≤ R.frames ∧ 8 + (maxL + 11) + rm.locals ≤ R.locals) : va_CN R s args own index y host bytes maxL ret (.code y bytes maxL ret :: tl_ws) rm mc ms n :=
  va_cnB n hw (tl_good hc) rfl hrc hrs hl (hw _ hini) hd hR
end TLC
