set_option maxHeartbeats 4000000 in
set_option maxRecDepth 100000 in
/-- YOUR PART: from the entry, for every script of at most 3584 ints, the law comes to its end with true -/
theorem whole_start {p : Program} {e : Env} {s : State} {m : MethodId} {below : List Frame} {meth : Method} {c : Code} (l : Launch) {b L : Nat} {xs : Nat → Int32} (hL : L ≤ 3584) (C0 : lw_At p s m meth c b L xs) : W p l e room_1 s m #[Value.ref b] below meth c s.heap [] 0 0 (lw_Z below #[Value.ref b] s) (entryFrame m ([Value.ref b] : List Value).toArray 4) := by
  obtain ⟨hx, hb, hr, hml, hownL, hts, hXs, hbl, hlocks, hgv⟩ := C0
  have hw : ∀ w ∈ tl_ws, w.before #[Value.ref b] s = true := fun w h => hts w (tl_sub w h)
  have hown : s.vm.findClass R_L = some m.cls := hownL
  have hN : tl_N s := ⟨fun q hq => va_Nw.of rfl (hts _ (tl_subF q hq)), fun q hq => va_Nw.of rfl (hts _ (tl_subM q hq))⟩
  have hG2 : tl_G2 s := tl_G2.of (hts _ tl_subO)
  obtain ⟨k0, i0, hk0⟩ := u_known (C := R_T) (T := F_T) (N := 5) hw iw_T (hw _ tl_m7)
  obtain ⟨k1, i1, hk1⟩ := u_known (C := R_D) (T := F_D) (N := 10) hw iw_D (hw _ tl_m15)
  obtain ⟨k2, i2, hk2⟩ := u_known (C := R_M) (T := F_M) (N := 18) hw iw_M (hw _ tl_m195)
  obtain ⟨D, hDe⟩ : ∃ D : va_G, D = (fun n => match n with | 0 => k0 | 1 => k1 | _ => k2, fun n => match n with | 0 => i0 | 1 => i1 | _ => i2) := ⟨_, rfl⟩
  have hK : va_K D tl_cl [] s := ⟨fun n q hq => by
    have hn : n < 3 := (List.getElem?_eq_some_iff.mp hq).1
    rcases (show n = 0 ∨ n = 1 ∨ n = 2 by omega) with rfl | rfl | rfl
    · cases hq; rw [hDe]; exact hk0
    · cases hq; rw [hDe]; exact hk1
    · cases hq; rw [hDe]; exact hk2, fun n q hq => by cases hq⟩
  clear hDe hk0 hk1 hk2
  have hl := lv_entry ([.ref b]) (n := 4) (Nat.le_of_ble_eq_true rfl)
  rw [lg_entry_eq]
  generalize (lg_sl ([.ref b]) ++ List.replicate (4 - (lg_sl ([.ref b])).length) Slot.unset).toArray = ls at hl ⊢
  have hl : lv_has ls 4 [(0, .ref b)] := hl
  have hA : ∀ q, s.heap.size ≤ q → (fun q => s.heap.size ≤ q) q := fun q h => h
  have hS : va_S (fun q => s.heap.size ≤ q) s.heap s.heap [] := va_S.rf
  have hP : va_P D tl_cl [] s.heap := fun k q h => by cases h
  have hD : va_D (fun q => s.heap.size ≤ q) [] := ⟨fun i j p q h => (by cases h), fun k q h => (by cases h)⟩
  refine va_new (ci := 0) (fs := [.null, .null, .int 0, .null, .int 0]) (C := R_T) (T := F_T) (N := 5) hx hb hw iw_T ft_T ft_T_ok hown (hw _ tl_m6) (hw _ tl_m7) (hw _ tl_m1) hK hP hD hS hA rfl (fun j hj => by rcases (show j = 0 ∨ j = 1 ∨ j = 2 ∨ j = 3 ∨ j = 4 by omega) with rfl | rfl | rfl | rfl | rfl <;> rfl) (Nat.le_of_ble_eq_true rfl) (Nat.le_of_ble_eq_true rfl) d_L_law_0 (fun q0 H hP hD hS => ?_)
  have hP : va_P D tl_cl [(q0, .inr (0, [.null, .null, .int 0, .null, .int 0]))] H := hP
  have hD : va_D (fun q => s.heap.size ≤ q) [(q0, .inr (0, [.null, .null, .int 0, .null, .int 0]))] := hD
  refine lv_dup hx hb d_L_law_3 rfl ?_
  have hFc := va_free (wc := [(q0, .inr (0, [.null, .null, .int 0, .null, .int 0]))]) hD hS hA [0] rfl
  refine va_callv (va_runI (As := []) (rest := [.ref q0]) ⟨hx, hb, hml, hown, hw⟩ (c_T_init l D q0 H.size) ⟨tl_cB hw tl_m10 tl_m1 tl_m8 dd_T_init rfl rfl ⟨Nat.le_of_ble_eq_true rfl, Nat.le_of_ble_eq_true rfl⟩, rfl, hw _ tl_m9⟩ ⟨(fun a U g mk q => by obtain ⟨z0, z1, zP, zK, zG, zN⟩ := q; exact ⟨z0, z1, zP, va_K.moved (u := U) (U := U.calling g mk a) (Vm.Alike.refl U.vm) zK, tl_G2.moved (u := U) (U := U.calling g mk a) (Vm.Alike.refl U.vm) zG, tl_N.same (u := U) (U := U.calling g mk a) rfl zN⟩), fun U hU hW => ⟨rfl, by rw [hU], by rw [hU]; exact hP, va_K.moved hW.alike hK, hG2.moved hW.alike, hN.warm hW⟩⟩ rfl rfl hl.1 rfl (lv_room (Nat.le_of_ble_eq_true rfl)) d_L_law_4 ⟨Nat.le_of_ble_eq_true rfl, Nat.le_of_ble_eq_true rfl⟩) hS (fun q _ h => hFc q h) hFc (fun u t H1 locs1 ht hvm _ hB hz1 hk1 hS1 => ?_)
  obtain ⟨ad, cJ, cI, cG⟩ := u
  obtain ⟨had0, hapA, hAad, hK1, hP1⟩ := hB
  dsimp only at had0 hapA hAad hK1 hP1
  rw [ht] at hP1
  have hKa : va_K D tl_cl [(cJ, .long), (cI, .int), (cG, .array .long)] s := va_K.moved hvm.symm hK1
  have hinA : ∀ q, tl_in ad 19 q → s.heap.size ≤ q := fun q hq => by obtain ⟨i, hi, rfl⟩ := hq; exact hFc _ (hAad i hi)
  have hDa : va_D (fun q => s.heap.size ≤ q) (tl_W cJ cI cG ad (fun _ => 0) 0 (fun _ _ => 0) (fun _ => 0) (fun _ => 0) (fun _ => 0) false 0 (-1) (fun _ => 0) 0 (fun _ => 0) 0 (fun _ => 0)) := (tl_DW hapA).weaken (fun k q _ h => hinA _ h)
  clear hk1 hz1 hFc hP hD hS hK1 hAad
  subst had0
  refine lv_astore_n (lv' := [(1, .ref (ad 0)), (0, .ref b)]) hx hb d_L_law_7 rfl hl (by decide) rfl (fun ls hl => ?_)
  refine va_new (ci := 2) (fs := [.int 0, .null, .null, .null, .null, .null, .int 0, .int 0, .int 0, .int 0, .int 0, .null, .int 0, .null, .int 0, .null, .null, .null]) (C := R_M) (T := F_M) (N := 18) hx hb hw iw_M ft_M ft_M_ok hown (hw _ tl_m194) (hw _ tl_m195) (hw _ tl_m3) hKa hP1 hDa hS1 hA rfl (fun j hj => by rcases (show j = 0 ∨ j = 1 ∨ j = 2 ∨ j = 3 ∨ j = 4 ∨ j = 5 ∨ j = 6 ∨ j = 7 ∨ j = 8 ∨ j = 9 ∨ j = 10 ∨ j = 11 ∨ j = 12 ∨ j = 13 ∨ j = 14 ∨ j = 15 ∨ j = 16 ∨ j = 17 by omega) with rfl | rfl | rfl | rfl | rfl | rfl | rfl | rfl | rfl | rfl | rfl | rfl | rfl | rfl | rfl | rfl | rfl | rfl <;> rfl) (Nat.le_of_ble_eq_true rfl) (Nat.le_of_ble_eq_true rfl) d_L_law_8 (fun q8 H2 hP2 hD2 hS2 => ?_)
  have hPx : va_P D tl_cl (tl_W cJ cI cG ad (fun _ => 0) 0 (fun _ _ => 0) (fun _ => 0) (fun _ => 0) (fun _ => 0) false 0 (-1) (fun _ => 0) 0 (fun _ => 0) 0 (fun _ => 0)) H2 := hP2.sub [0, 1, 2, 3, 4, 5, 6, 7, 8, 9, 10, 11, 12, 13, 14, 15, 16, 17, 18] rfl
  have hPc : va_P D tl_cl [(q8, .inr (2, [.int 0, .null, .null, .null, .null, .null, .int 0, .int 0, .int 0, .int 0, .int 0, .null, .int 0, .null, .int 0, .null, .null, .null]))] H2 := hP2.sub [19] rfl
  have hne : ∀ i, i < 19 → ad i ≠ q8 := fun i hi h => by
    have h1 : (tl_W cJ cI cG ad (fun _ => 0) 0 (fun _ _ => 0) (fun _ => 0) (fun _ => 0) (fun _ => 0) false 0 (-1) (fun _ => 0) 0 (fun _ => 0) 0 (fun _ => 0))[i]? ≠ none := by rw [Ne, List.getElem?_eq_none_iff, tl_Wlen]; omega
    cases hq : (tl_W cJ cI cG ad (fun _ => 0) 0 (fun _ _ => 0) (fun _ => 0) (fun _ => 0) (fun _ => 0) false 0 (-1) (fun _ => 0) 0 (fun _ => 0) 0 (fun _ => 0))[i]? with
    | none => exact h1 hq
    | some x =>
      have h2 := (tl_Dkey (ad := ad) (k := 19) (ws := tl_W cJ cI cG ad (fun _ => 0) 0 (fun _ _ => 0) (fun _ => 0) (fun _ => 0) (fun _ => 0) false 0 (-1) (fun _ => 0) 0 (fun _ => 0) 0 (fun _ => 0)) rfl hq).2
      have h3 : ((tl_W cJ cI cG ad (fun _ => 0) 0 (fun _ _ => 0) (fun _ => 0) (fun _ => 0) (fun _ => 0) false 0 (-1) (fun _ => 0) 0 (fun _ => 0) 0 (fun _ => 0)) ++ [(q8, .inr (2, [.int 0, .null, .null, .null, .null, .null, .int 0, .int 0, .int 0, .int 0, .int 0, .null, .int 0, .null, .int 0, .null, .null, .null]))])[i]? = some x := by rw [List.getElem?_append_left (by rw [tl_Wlen]; omega)]; exact hq
      have h4 := hD2.1 i 19 x (q8, .inr (2, [.int 0, .null, .null, .null, .null, .null, .int 0, .int 0, .int 0, .int 0, .int 0, .null, .int 0, .null, .int 0, .null, .null, .null])) h3 rfl (by rw [h2]; exact h)
      omega
  have hlt : ∀ i, i < 19 → ad i < H2.size := fun i hi => by
    cases hq : (tl_W cJ cI cG ad (fun _ => 0) 0 (fun _ _ => 0) (fun _ => 0) (fun _ => 0) (fun _ => 0) false 0 (-1) (fun _ => 0) 0 (fun _ => 0) 0 (fun _ => 0))[i]? with
    | none => exact absurd hq (by rw [List.getElem?_eq_none_iff, tl_Wlen]; omega)
    | some x =>
      have h2 := (tl_Dkey (ad := ad) (k := 19) (ws := tl_W cJ cI cG ad (fun _ => 0) 0 (fun _ _ => 0) (fun _ => 0) (fun _ => 0) (fun _ => 0) false 0 (-1) (fun _ => 0) 0 (fun _ => 0) 0 (fun _ => 0)) rfl hq).2
      rw [← h2]
      exact (hPx i x hq).lt
  refine lv_dup hx hb d_L_law_11 rfl ?_
  have hFd := va_free (wc := [(q8, .inr (2, [.int 0, .null, .null, .null, .null, .null, .int 0, .int 0, .int 0, .int 0, .int 0, .null, .int 0, .null, .int 0, .null, .null, .null]))]) hD2 hS2 hA [19] rfl
  refine va_callv (va_runI (As := []) (rest := [.ref q8]) ⟨hx, hb, hml, hown, hw⟩ (c_M_init l D q8 H2.size) ⟨tl_cB hw tl_m198 tl_m3 tl_m196 dd_M_init rfl rfl ⟨Nat.le_of_ble_eq_true rfl, Nat.le_of_ble_eq_true rfl⟩, rfl, hw _ tl_m197⟩ ⟨(fun a U g mk q => by obtain ⟨z0, z1, zP, zK⟩ := q; exact ⟨z0, z1, zP, va_K.moved (u := U) (U := U.calling g mk a) (Vm.Alike.refl U.vm) zK⟩), fun U hU hW => ⟨rfl, by rw [hU], by rw [hU]; exact hPc, va_K.moved hW.alike hK⟩⟩ rfl rfl hl.1 rfl (lv_room (Nat.le_of_ble_eq_true rfl)) d_L_law_12 ⟨Nat.le_of_ble_eq_true rfl, Nat.le_of_ble_eq_true rfl⟩) hS2 (fun q _ h => hFd q h) hFd (fun u t H3 locs3 ht hvm _ hB hz3 hk3 hS3 => ?_)
  obtain ⟨bd, cJ2, cI2, cZ⟩ := u
  obtain ⟨hbd0, hapB, hAbd, hK3, hP3⟩ := hB
  dsimp only at hbd0 hapB hAbd hK3 hP3
  rw [ht] at hP3
  have hKb : va_K D tl_cl [(cJ2, .long), (cI2, .int), (cZ, .boolean)] s := va_K.moved hvm.symm hK3
  have hinB : ∀ q, tl_in bd 11 q → s.heap.size ≤ q := fun q hq => by obtain ⟨i, hi, rfl⟩ := hq; exact hFd _ (hAbd i hi)
  have hdj : ∀ i, i < 19 → ∀ j, j < 11 → ad i ≠ bd j := fun i hi j hj h => by
    rcases hAbd j hj with ⟨k, e9, hq⟩ | hq
    · have hk : k < 1 := (List.getElem?_eq_some_iff.mp hq).1
      rw [show k = 0 by omega] at hq
      have h9 : bd j = q8 := by have := congrArg (fun z : Option (Nat × va_E) => (z.map (fun y => y.1)).getD 0) hq; exact this.symm
      exact hne i hi (h.trans h9)
    · have := hlt i hi; omega
  have hPx3 : va_P D tl_cl (tl_W cJ cI cG ad (fun _ => 0) 0 (fun _ _ => 0) (fun _ => 0) (fun _ => 0) (fun _ => 0) false 0 (-1) (fun _ => 0) 0 (fun _ => 0) 0 (fun _ => 0)) H3 := tl_kept (f := ad) (k := 19) rfl hPx (A := va_A [(q8, .inr (2, [.int 0, .null, .null, .null, .null, .null, .int 0, .int 0, .int 0, .int 0, .int 0, .null, .int 0, .null, .int 0, .null, .null, .null]))] H2.size) (fun i hi q => by
    rcases q with ⟨k, e9, hq⟩ | hq
    · have hk : k < 1 := (List.getElem?_eq_some_iff.mp hq).1
      rw [show k = 0 by omega] at hq
      have h9 : ad i = q8 := by have := congrArg (fun z : Option (Nat × va_E) => (z.map (fun y => y.1)).getD 0) hq; exact this.symm
      exact hne i hi h9
    · have := hlt i hi; omega) hk3
  have hKab := hKa.app hKb
  have eJ : cJ = cJ2 := tl_sameA hKab 0 3 (fun C h => by cases h) rfl rfl
  have eI : cI = cI2 := tl_sameA hKab 1 4 (fun C h => by cases h) rfl rfl
  subst eJ; subst eI; subst hbd0
  have hKe : va_K D tl_cl (tl_ty cJ cI cG cZ) s := hKab.sub [0, 1, 2, 5] rfl
  have hX3 : tl_X D cJ cI cG ad tl_new H3 := ⟨_, _, _, _, _, tl_H0, hPx3⟩
  have hY3 : tl_Y D cJ cI cZ bd tl_new H3 := ⟨_, _, _, _, _, _, _, _, _, _, ⟨tl_H0, fun _ => rfl, fun _ _ => rfl⟩, hP3⟩
  refine lv_astore_n (lv' := [(2, .ref (bd 0)), (1, .ref (ad 0)), (0, .ref b)]) hx hb d_L_law_15 rfl hl (by decide) rfl (fun ls hl => ?_)
  refine lv_iconst (v := nI 0) hx hb d_L_law_16 (by decide) ?_
  refine lv_istore_n (lv' := [(3, .int (nI 0)), (2, .ref (bd 0)), (1, .ref (ad 0)), (0, .ref b)]) hx hb d_L_law_17 rfl hl (by decide) rfl (fun ls hl => ?_)
  refine W.widen (k := 600000) (n := 7302250) (by decide) (by decide) ?_
  have C1 : tl_Law p s m meth c b L xs D cJ cI cG cZ ad bd := ⟨hx, hb, hml, hown, hw, hXs, hbl, ⟨hKe, hN⟩, hapA, hapB, hdj, hinA, hinB⟩
  exact tl_loop C1 hr hlocks hL 513 ls H3 locs3 ⟨0, tl_new, lv_sub hl [0, 3, 2, 1] rfl, hS3, hX3, hY3, Nat.le_refl _, Nat.zero_le _, rfl⟩
