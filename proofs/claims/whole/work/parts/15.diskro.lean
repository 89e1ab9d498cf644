set_option maxHeartbeats 4000000 in
set_option maxRecDepth 100000 in
theorem c_D_latestPlace (l : Launch) (D : va_G) (cJ cI cG cZ : ClassId) (ad : Nat → Nat) (E : Nat → Int64) (nf : Nat) (T : Nat → Nat → Int64) (hn hs : Nat → Int32) (rt : Nat → Int64) (dn : Bool) (wm cr : Int32) (pf : Nat → Int64) (pl : Nat) (O : Nat → Int64) (ol : Nat) (r8 : Nat → Int64) (L : Nat) (sz : Nat → Nat) (hL : L < 2 ^ 30) (hh : ∀ p, p < 2 → hn p = nI (tl_num L p)) (hz : ∀ p, p < 2 → hs p = nI (sz p)) : Met l y_D_latestPlace (k_D_latestPlace :: tl_ws) { frames := 0, cells := 0, slots := 0, locals := 0 } (tl_Pc D cJ cI cG cZ [.ref (ad 1)] (fun H => va_P D tl_cl (tl_W cJ cI cG ad E nf T hn hs rt dn wm cr pf pl O ol r8) H)) (vp_Si (fun r => r = nI (L % 2))) 0 0 (fun _ => False) := by
  refine Met.ofW (cc := b_D_latestPlace) (maxL := 1) (ret := (some .int)) (by decide) rfl ?_
  intro p e s m args below meth c s₁ B hml hv
  obtain ⟨rfl, hE, hP⟩ := hv
  have hx := B.exec
  have hb := B.bytes
  have hr := B.returns
  have hw : ∀ w ∈ tl_ws, w.before ([.ref (ad 1)] : List Value).toArray s = true := fun w h => atoms_spec (ws := k_D_latestPlace :: tl_ws) B.pre w (List.mem_cons_of_mem _ h)
  have hown : s.vm.findClass R_D = some m.cls := findClass_of_methodNamed B.named
  have hlocks := B.notSynchronized
  have hl := lv_entry ([.ref (ad 1)]) (n := 1) (Nat.le_of_ble_eq_true rfl)
  rw [lg_entry_eq]
  generalize (lg_sl ([.ref (ad 1)]) ++ List.replicate (1 - (lg_sl ([.ref (ad 1)])).length) Slot.unset).toArray = ls at hl ⊢
  have hl : lv_has ls 1 [(0, .ref (ad 1))] := hl
  have hP : va_P D tl_cl (tl_W cJ cI cG ad E nf T hn hs rt dn wm cr pf pl O ol r8) s.heap := hP
  have hb0 := tl_num_le L 0
  have hb1 := tl_num_le L 1
  refine lv_aload_n hx hb d_D_latestPlace_0 rfl (lv_at hl 0 rfl) ?_
  refine va_get (ci := 1) (v := .ref (ad 6)) (C := R_D) (T := F_D) (N := 10) hx hb hw iw_D hown hE.1 hP 1 rfl rfl 2 (by decide) (hw _ tl_m22) (fun _ h9 => h9) rfl d_D_latestPlace_1 ?_
  refine lv_iconst (v := (nI (1))) hx hb d_D_latestPlace_4 (by decide) ?_
  refine tl_iald (a := 1) hx hb hE.1 hP 6 1 rfl rfl (by omega) (by decide) d_D_latestPlace_5 ?_
  refine lv_topi (nm_r (e' := (nI (tl_num L 1))) (hh 1 (by omega)) ?_)
  refine lv_aload_n hx hb d_D_latestPlace_6 rfl (lv_at hl 0 rfl) ?_
  refine va_get (ci := 1) (v := .ref (ad 6)) (C := R_D) (T := F_D) (N := 10) hx hb hw iw_D hown hE.1 hP 1 rfl rfl 2 (by decide) (hw _ tl_m22) (fun _ h9 => h9) rfl d_D_latestPlace_7 ?_
  refine lv_iconst (v := (nI (0))) hx hb d_D_latestPlace_10 (by decide) ?_
  refine tl_iald (a := 0) hx hb hE.1 hP 6 1 rfl rfl (by omega) (by decide) d_D_latestPlace_11 ?_
  refine lv_topi (nm_r (e' := (nI (tl_num L 0))) (hh 0 (by omega)) ?_)
  refine tl_cle (tgt := 19) (by omega) (by omega) hx hb d_D_latestPlace_12 (by decide) (fun h12 => ?_) (fun h12 => ?_)
  · -- 12 t
    refine lv_iconst (v := (nI (0))) hx hb d_D_latestPlace_19 (by decide) ?_
    exact W.iret hx hb hr (fun t9 ht9 _ => ⟨(nI (0)), rfl, (by first | rw [tl_lp1 h12] | rw [tl_lp0 h12]), ht9⟩) (fun q h => by cases h) d_D_latestPlace_20
  · -- 12 f
    refine lv_iconst (v := (nI (1))) hx hb d_D_latestPlace_15 (by decide) ?_
    refine lv_goto (tgt := 20) hx hb d_D_latestPlace_16 (by decide) ?_
    exact W.iret hx hb hr (fun t9 ht9 _ => ⟨(nI (1)), rfl, (by first | rw [tl_lp1 h12] | rw [tl_lp0 h12]), ht9⟩) (fun q h => by cases h) d_D_latestPlace_20

set_option maxHeartbeats 4000000 in
set_option maxRecDepth 100000 in
theorem c_D_latestNumber (l : Launch) (D : va_G) (cJ cI cG cZ : ClassId) (ad : Nat → Nat) (E : Nat → Int64) (nf : Nat) (T : Nat → Nat → Int64) (hn hs : Nat → Int32) (rt : Nat → Int64) (dn : Bool) (wm cr : Int32) (pf : Nat → Int64) (pl : Nat) (O : Nat → Int64) (ol : Nat) (r8 : Nat → Int64) (L : Nat) (sz : Nat → Nat) (hL : L < 2 ^ 30) (hh : ∀ p, p < 2 → hn p = nI (tl_num L p)) (hz : ∀ p, p < 2 → hs p = nI (sz p)) : Met l y_D_latestNumber (k_D_latestNumber :: tl_ws) { frames := 1, cells := 0, slots := 0, locals := 20 } (tl_Pc D cJ cI cG cZ [.ref (ad 1)] (fun H => va_P D tl_cl (tl_W cJ cI cG ad E nf T hn hs rt dn wm cr pf pl O ol r8) H)) (vp_Si (fun r => r = nI L)) 0 0 (fun _ => False) := by
  refine Met.ofW (cc := b_D_latestNumber) (maxL := 1) (ret := (some .int)) (by decide) rfl ?_
  intro p e s m args below meth c s₁ B hml hv
  obtain ⟨rfl, hE, hP⟩ := hv
  have hx := B.exec
  have hb := B.bytes
  have hr := B.returns
  have hw : ∀ w ∈ tl_ws, w.before ([.ref (ad 1)] : List Value).toArray s = true := fun w h => atoms_spec (ws := k_D_latestNumber :: tl_ws) B.pre w (List.mem_cons_of_mem _ h)
  have hown : s.vm.findClass R_D = some m.cls := findClass_of_methodNamed B.named
  have hlocks := B.notSynchronized
  have hl := lv_entry ([.ref (ad 1)]) (n := 1) (Nat.le_of_ble_eq_true rfl)
  rw [lg_entry_eq]
  generalize (lg_sl ([.ref (ad 1)]) ++ List.replicate (1 - (lg_sl ([.ref (ad 1)])).length) Slot.unset).toArray = ls at hl ⊢
  have hl : lv_has ls 1 [(0, .ref (ad 1))] := hl
  have hP : va_P D tl_cl (tl_W cJ cI cG ad E nf T hn hs rt dn wm cr pf pl O ol r8) s.heap := hP
  refine lv_aload_n hx hb d_D_latestNumber_0 rfl (lv_at hl 0 rfl) ?_
  refine va_get (ci := 1) (v := .ref (ad 6)) (C := R_D) (T := F_D) (N := 10) hx hb hw iw_D hown hE.1 hP 1 rfl rfl 2 (by decide) (hw _ tl_m22) (fun _ h9 => h9) rfl d_D_latestNumber_1 ?_
  refine lv_aload_n hx hb d_D_latestNumber_4 rfl (lv_at hl 0 rfl) ?_
  refine tl_goI (v := (nI (L % 2))) (va_runV (As := []) (rest := [.ref (ad 6)]) ⟨hx, hb, hml, hown, hw⟩ (c_D_latestPlace l D cJ cI cG cZ ad E nf T hn hs rt dn wm cr pf pl O ol r8  L sz hL hh hz) (⟨tl_cB hw tl_m54 tl_m2 tl_m52 dd_D_latestPlace rfl rfl ⟨Nat.le_of_ble_eq_true rfl, Nat.le_of_ble_eq_true rfl⟩, hw _ tl_m53, hw _ tl_m356⟩) (tl_preV hE hP (va_recv (q0 := 1) (ci := 1) (q := (R_D, F_D, 10)) hE.1 hP rfl rfl)) rfl rfl hl.1 rfl (lv_room (Nat.le_of_ble_eq_true rfl)) d_D_latestNumber_5 ⟨Nat.zero_le _, Nat.zero_le _⟩) ?_
  refine tl_iald (a := (L % 2)) hx hb hE.1 hP 6 1 rfl rfl (by omega) (by decide) d_D_latestNumber_8 ?_
  refine lv_topi (nm_r (e' := (nI (L))) (by rw [hh _ (by omega), tl_num_self]) ?_)
  exact W.iret hx hb hr (fun t9 ht9 _ => ⟨(nI (L)), rfl, rfl, ht9⟩) (fun q h => by cases h) d_D_latestNumber_9

set_option maxHeartbeats 4000000 in
set_option maxRecDepth 100000 in
theorem c_D_publishedSize (l : Launch) (D : va_G) (cJ cI cG cZ : ClassId) (ad : Nat → Nat) (E : Nat → Int64) (nf : Nat) (T : Nat → Nat → Int64) (hn hs : Nat → Int32) (rt : Nat → Int64) (dn : Bool) (wm cr : Int32) (pf : Nat → Int64) (pl : Nat) (O : Nat → Int64) (ol : Nat) (r8 : Nat → Int64) (L : Nat) (sz : Nat → Nat) (hL : L < 2 ^ 30) (hh : ∀ p, p < 2 → hn p = nI (tl_num L p)) (hz : ∀ p, p < 2 → hs p = nI (sz p)) : Met l y_D_publishedSize (k_D_publishedSize :: tl_ws) { frames := 1, cells := 0, slots := 0, locals := 20 } (tl_Pc D cJ cI cG cZ [.ref (ad 1)] (fun H => va_P D tl_cl (tl_W cJ cI cG ad E nf T hn hs rt dn wm cr pf pl O ol r8) H)) (vp_Si (fun r => r = nI (tl_pub L sz))) 0 0 (fun _ => False) := by
  refine Met.ofW (cc := b_D_publishedSize) (maxL := 1) (ret := (some .int)) (by decide) rfl ?_
  intro p e s m args below meth c s₁ B hml hv
  obtain ⟨rfl, hE, hP⟩ := hv
  have hx := B.exec
  have hb := B.bytes
  have hr := B.returns
  have hw : ∀ w ∈ tl_ws, w.before ([.ref (ad 1)] : List Value).toArray s = true := fun w h => atoms_spec (ws := k_D_publishedSize :: tl_ws) B.pre w (List.mem_cons_of_mem _ h)
  have hown : s.vm.findClass R_D = some m.cls := findClass_of_methodNamed B.named
  have hlocks := B.notSynchronized
  have hl := lv_entry ([.ref (ad 1)]) (n := 1) (Nat.le_of_ble_eq_true rfl)
  rw [lg_entry_eq]
  generalize (lg_sl ([.ref (ad 1)]) ++ List.replicate (1 - (lg_sl ([.ref (ad 1)])).length) Slot.unset).toArray = ls at hl ⊢
  have hl : lv_has ls 1 [(0, .ref (ad 1))] := hl
  have hP : va_P D tl_cl (tl_W cJ cI cG ad E nf T hn hs rt dn wm cr pf pl O ol r8) s.heap := hP
  refine lv_aload_n hx hb d_D_publishedSize_0 rfl (lv_at hl 0 rfl) ?_
  refine va_get (ci := 1) (v := .ref (ad 7)) (C := R_D) (T := F_D) (N := 10) hx hb hw iw_D hown hE.1 hP 1 rfl rfl 3 (by decide) (hw _ tl_m23) (fun _ h9 => h9) rfl d_D_publishedSize_1 ?_
  refine lv_aload_n hx hb d_D_publishedSize_4 rfl (lv_at hl 0 rfl) ?_
  refine tl_goI (v := (nI (L % 2))) (va_runV (As := []) (rest := [.ref (ad 7)]) ⟨hx, hb, hml, hown, hw⟩ (c_D_latestPlace l D cJ cI cG cZ ad E nf T hn hs rt dn wm cr pf pl O ol r8  L sz hL hh hz) (⟨tl_cB hw tl_m54 tl_m2 tl_m52 dd_D_latestPlace rfl rfl ⟨Nat.le_of_ble_eq_true rfl, Nat.le_of_ble_eq_true rfl⟩, hw _ tl_m53, hw _ tl_m356⟩) (tl_preV hE hP (va_recv (q0 := 1) (ci := 1) (q := (R_D, F_D, 10)) hE.1 hP rfl rfl)) rfl rfl hl.1 rfl (lv_room (Nat.le_of_ble_eq_true rfl)) d_D_publishedSize_5 ⟨Nat.zero_le _, Nat.zero_le _⟩) ?_
  refine tl_iald (a := (L % 2)) hx hb hE.1 hP 7 1 rfl rfl (by omega) (by decide) d_D_publishedSize_8 ?_
  refine lv_topi (nm_r (e' := (nI (tl_pub L sz))) (hz _ (by omega)) ?_)
  exact W.iret hx hb hr (fun t9 ht9 _ => ⟨(nI (tl_pub L sz)), rfl, rfl, ht9⟩) (fun q h => by cases h) d_D_publishedSize_9

set_option maxHeartbeats 4000000 in
set_option maxRecDepth 100000 in
theorem c_D_hasHead (l : Launch) (D : va_G) (cJ cI cG cZ : ClassId) (ad : Nat → Nat) (E : Nat → Int64) (nf : Nat) (T : Nat → Nat → Int64) (hn hs : Nat → Int32) (rt : Nat → Int64) (dn : Bool) (wm cr : Int32) (pf : Nat → Int64) (pl : Nat) (O : Nat → Int64) (ol : Nat) (r8 : Nat → Int64) (L : Nat) (sz : Nat → Nat) (x : Int32) (hL : L < 2 ^ 30) (hh : ∀ p, p < 2 → hn p = nI (tl_num L p)) (hz : ∀ p, p < 2 → hs p = nI (sz p)) : Met l y_D_hasHead (k_D_hasHead :: tl_ws) { frames := 0, cells := 0, slots := 0, locals := 0 } (tl_Pc D cJ cI cG cZ [.ref (ad 1), .int (x)] (fun H => va_P D tl_cl (tl_W cJ cI cG ad E nf T hn hs rt dn wm cr pf pl O ol r8) H)) (vp_Si (fun r => r = tl_bi (tl_has L x))) 0 0 (fun _ => False) := by
  refine Met.ofW (cc := b_D_hasHead) (maxL := 2) (ret := (some .boolean)) (by decide) rfl ?_
  intro p e s m args below meth c s₁ B hml hv
  obtain ⟨rfl, hE, hP⟩ := hv
  have hx := B.exec
  have hb := B.bytes
  have hr := B.returns
  have hw : ∀ w ∈ tl_ws, w.before ([.ref (ad 1), .int (x)] : List Value).toArray s = true := fun w h => atoms_spec (ws := k_D_hasHead :: tl_ws) B.pre w (List.mem_cons_of_mem _ h)
  have hown : s.vm.findClass R_D = some m.cls := findClass_of_methodNamed B.named
  have hlocks := B.notSynchronized
  have hl := lv_entry ([.ref (ad 1), .int (x)]) (n := 2) (Nat.le_of_ble_eq_true rfl)
  rw [lg_entry_eq]
  generalize (lg_sl ([.ref (ad 1), .int (x)]) ++ List.replicate (2 - (lg_sl ([.ref (ad 1), .int (x)])).length) Slot.unset).toArray = ls at hl ⊢
  have hl : lv_has ls 2 [(0, .ref (ad 1)), (1, .int (x))] := hl
  have hP : va_P D tl_cl (tl_W cJ cI cG ad E nf T hn hs rt dn wm cr pf pl O ol r8) s.heap := hP
  refine lv_iload_n hx hb d_D_hasHead_0 rfl (lv_at hl 1 rfl) ?_
  refine lv_if_lt (tgt := 22) hx hb d_D_hasHead_1 (by decide) (fun h1 => ?_) (fun h1 => ?_)
  · -- 1 t
    refine lv_iconst (v := (nI (0))) hx hb d_D_hasHead_22 (by decide) ?_
    exact W.zret hx hb hr rfl (fun t9 ht9 _ => ⟨(nI (0)), rfl, (by first | (rw [tl_has_lo h1]; rfl) | (rw [tl_has_hi h6]; rfl) | (rw [tl_has_j hj, h15]; rfl) | (rw [tl_has_j hj, bne_iff_ne.mpr h15]; rfl)), ht9⟩) (fun q h => by cases h) d_D_hasHead_23
  · -- 1 f
    refine lv_iload_n hx hb d_D_hasHead_4 rfl (lv_at hl 1 rfl) ?_
    refine lv_iconst (v := (nI (2))) hx hb d_D_hasHead_5 (by decide) ?_
    refine lv_icmp_ge (tgt := 22) hx hb d_D_hasHead_6 (by decide) (fun h6 => ?_) (fun h6 => ?_)
    · -- 6 t
      refine lv_iconst (v := (nI (0))) hx hb d_D_hasHead_22 (by decide) ?_
      exact W.zret hx hb hr rfl (fun t9 ht9 _ => ⟨(nI (0)), rfl, (by first | (rw [tl_has_lo h1]; rfl) | (rw [tl_has_hi h6]; rfl) | (rw [tl_has_j hj, h15]; rfl) | (rw [tl_has_j hj, bne_iff_ne.mpr h15]; rfl)), ht9⟩) (fun q h => by cases h) d_D_hasHead_23
    · -- 6 f
      obtain ⟨j, hj, rfl⟩ := tl_ix (by decide) h1 h6
      have hbj := tl_num_le L j
      refine lv_aload_n hx hb d_D_hasHead_9 rfl (lv_at hl 0 rfl) ?_
      refine va_get (ci := 1) (v := .ref (ad 6)) (C := R_D) (T := F_D) (N := 10) hx hb hw iw_D hown hE.1 hP 1 rfl rfl 2 (by decide) (hw _ tl_m22) (fun _ h9 => h9) rfl d_D_hasHead_10 ?_
      refine lv_iload_n hx hb d_D_hasHead_13 rfl (lv_at hl 1 rfl) ?_
      refine tl_iald (a := j) hx hb hE.1 hP 6 1 rfl rfl (by omega) (by decide) d_D_hasHead_14 ?_
      refine lv_topi (nm_r (e' := (nI (tl_num L j))) (hh j hj) ?_)
      refine tl_zeq (tgt := 22) (by omega) hx hb d_D_hasHead_15 (by decide) (fun h15 => ?_) (fun h15 => ?_)
      · -- 15 t
        refine lv_iconst (v := (nI (0))) hx hb d_D_hasHead_22 (by decide) ?_
        exact W.zret hx hb hr rfl (fun t9 ht9 _ => ⟨(nI (0)), rfl, (by first | (rw [tl_has_lo h1]; rfl) | (rw [tl_has_hi h6]; rfl) | (rw [tl_has_j hj, h15]; rfl) | (rw [tl_has_j hj, bne_iff_ne.mpr h15]; rfl)), ht9⟩) (fun q h => by cases h) d_D_hasHead_23
      · -- 15 f
        refine lv_iconst (v := (nI (1))) hx hb d_D_hasHead_18 (by decide) ?_
        refine lv_goto (tgt := 23) hx hb d_D_hasHead_19 (by decide) ?_
        exact W.zret hx hb hr rfl (fun t9 ht9 _ => ⟨(nI (1)), rfl, (by first | (rw [tl_has_lo h1]; rfl) | (rw [tl_has_hi h6]; rfl) | (rw [tl_has_j hj, h15]; rfl) | (rw [tl_has_j hj, bne_iff_ne.mpr h15]; rfl)), ht9⟩) (fun q h => by cases h) d_D_hasHead_23

set_option maxHeartbeats 4000000 in
set_option maxRecDepth 100000 in
theorem c_D_leafBelow (l : Launch) (D : va_G) (cJ cI cG cZ : ClassId) (ad : Nat → Nat) (E : Nat → Int64) (nf : Nat) (T : Nat → Nat → Int64) (hn hs : Nat → Int32) (rt : Nat → Int64) (dn : Bool) (wm cr : Int32) (pf : Nat → Int64) (pl : Nat) (O : Nat → Int64) (ol : Nat) (r8 : Nat → Int64) (k n : Nat) (hk : k < 2 ^ 30) (hn2 : n ≤ 64) : Met l y_D_leafBelow (k_D_leafBelow :: tl_ws) { frames := 2, cells := 0, slots := 0, locals := 48 } (tl_Pc D cJ cI cG cZ [.ref (ad 1), .int (nI (k)), .int (nI (n))] (fun H => va_P D tl_cl (tl_W cJ cI cG ad E nf T hn hs rt dn wm cr pf pl O ol r8) H)) (vp_Sl (fun r => r = if k < n then tl_leaf (E k) else 0)) 0 0 (fun _ => False) := by
  refine Met.ofW (cc := b_D_leafBelow) (maxL := 3) (ret := (some .long)) (by decide) rfl ?_
  intro p e s m args below meth c s₁ B hml hv
  obtain ⟨rfl, hE, hP⟩ := hv
  have hx := B.exec
  have hb := B.bytes
  have hr := B.returns
  have hw : ∀ w ∈ tl_ws, w.before ([.ref (ad 1), .int (nI (k)), .int (nI (n))] : List Value).toArray s = true := fun w h => atoms_spec (ws := k_D_leafBelow :: tl_ws) B.pre w (List.mem_cons_of_mem _ h)
  have hown : s.vm.findClass R_D = some m.cls := findClass_of_methodNamed B.named
  have hlocks := B.notSynchronized
  have hl := lv_entry ([.ref (ad 1), .int (nI (k)), .int (nI (n))]) (n := 3) (Nat.le_of_ble_eq_true rfl)
  rw [lg_entry_eq]
  generalize (lg_sl ([.ref (ad 1), .int (nI (k)), .int (nI (n))]) ++ List.replicate (3 - (lg_sl ([.ref (ad 1), .int (nI (k)), .int (nI (n))])).length) Slot.unset).toArray = ls at hl ⊢
  have hl : lv_has ls 3 [(0, .ref (ad 1)), (1, .int (nI (k))), (2, .int (nI (n)))] := hl
  have hP : va_P D tl_cl (tl_W cJ cI cG ad E nf T hn hs rt dn wm cr pf pl O ol r8) s.heap := hP
  refine lv_iload_n hx hb d_D_leafBelow_0 rfl (lv_at hl 1 rfl) ?_
  refine lv_iload_n hx hb d_D_leafBelow_1 rfl (lv_at hl 2 rfl) ?_
  refine tl_cge (tgt := 17) (by omega) (by omega) hx hb d_D_leafBelow_2 (by decide) (fun h2 => ?_) (fun h2 => ?_)
  · -- 2 t
    refine lv_lconst (v := 0) hx hb d_D_leafBelow_17 (by decide) ?_
    exact W.lret hx hb hr (fun t9 ht9 _ => ⟨(0), rfl, (by first | rw [if_pos h2] | rw [if_neg (by omega)]), ht9⟩) (fun q h => by cases h) d_D_leafBelow_18
  · -- 2 f
    refine lv_aload_n hx hb d_D_leafBelow_5 rfl (lv_at hl 0 rfl) ?_
    refine va_get (ci := 1) (v := .ref (ad 4)) (C := R_D) (T := F_D) (N := 10) hx hb hw iw_D hown hE.1 hP 1 rfl rfl 0 (by decide) (hw _ tl_m20) (fun _ h9 => h9) rfl d_D_leafBelow_6 ?_
    refine lv_iload_n hx hb d_D_leafBelow_9 rfl (lv_at hl 1 rfl) ?_
    refine tl_lald (a := k) hx hb hE.1 hP 4 0 rfl rfl (by omega) (by decide) d_D_leafBelow_10 ?_
    refine tl_goL (v := (tl_leaf (E k))) (va_runSN (As := [.long (E k)]) (rest := []) ⟨hx, hb, hml, hown, hw⟩ (c_H_ofLeaf l (E k)) (⟨tl_cN hw tl_m64 tl_m4 (tl_n4 hE.2) dd_H_ofLeaf rfl rfl ⟨Nat.le_of_ble_eq_true rfl, Nat.le_of_ble_eq_true rfl⟩, hw _ tl_m63, trivial⟩) (tl_pre0) rfl rfl hl.1 rfl (lv_room (Nat.le_of_ble_eq_true rfl)) d_D_leafBelow_11 ⟨Nat.zero_le _, Nat.zero_le _⟩) ?_
    refine lv_goto (tgt := 18) hx hb d_D_leafBelow_14 (by decide) ?_
    exact W.lret hx hb hr (fun t9 ht9 _ => ⟨(tl_leaf (E k)), rfl, (by first | rw [if_pos h2] | rw [if_neg (by omega)]), ht9⟩) (fun q h => by cases h) d_D_leafBelow_18

set_option maxHeartbeats 4000000 in
set_option maxRecDepth 100000 in
theorem c_D_groupBelow (l : Launch) (D : va_G) (cJ cI cG cZ : ClassId) (ad : Nat → Nat) (E : Nat → Int64) (nf : Nat) (T : Nat → Nat → Int64) (hn hs : Nat → Int32) (rt : Nat → Int64) (dn : Bool) (wm cr : Int32) (pf : Nat → Int64) (pl : Nat) (O : Nat → Int64) (ol : Nat) (r8 : Nat → Int64) (k n : Nat) (hk : k < 2 ^ 20) (hn2 : n ≤ 64) : Met l y_D_groupBelow (k_D_groupBelow :: tl_ws) { frames := 9, cells := 0, slots := 0, locals := 211 } (tl_Pc D cJ cI cG cZ [.ref (ad 1), .int (nI (k)), .int (nI (n))] (fun H => va_P D tl_cl (tl_W cJ cI cG ad E nf T hn hs rt dn wm cr pf pl O ol r8) H)) (vp_Sl (fun r => r = if k * 8 + 8 ≤ n then tl_root E (k * 8) 8 else 0)) 0 0 (fun _ => False) := by
  refine Met.ofW (cc := b_D_groupBelow) (maxL := 4) (ret := (some .long)) (by decide) rfl ?_
  intro p e s m args below meth c s₁ B hml hv
  obtain ⟨rfl, hE, hP⟩ := hv
  have hx := B.exec
  have hb := B.bytes
  have hr := B.returns
  have hw : ∀ w ∈ tl_ws, w.before ([.ref (ad 1), .int (nI (k)), .int (nI (n))] : List Value).toArray s = true := fun w h => atoms_spec (ws := k_D_groupBelow :: tl_ws) B.pre w (List.mem_cons_of_mem _ h)
  have hown : s.vm.findClass R_D = some m.cls := findClass_of_methodNamed B.named
  have hlocks := B.notSynchronized
  have hl := lv_entry ([.ref (ad 1), .int (nI (k)), .int (nI (n))]) (n := 4) (Nat.le_of_ble_eq_true rfl)
  rw [lg_entry_eq]
  generalize (lg_sl ([.ref (ad 1), .int (nI (k)), .int (nI (n))]) ++ List.replicate (4 - (lg_sl ([.ref (ad 1), .int (nI (k)), .int (nI (n))])).length) Slot.unset).toArray = ls at hl ⊢
  have hl : lv_has ls 4 [(0, .ref (ad 1)), (1, .int (nI (k))), (2, .int (nI (n)))] := hl
  have hP : va_P D tl_cl (tl_W cJ cI cG ad E nf T hn hs rt dn wm cr pf pl O ol r8) s.heap := hP
  refine lv_iload_n hx hb d_D_groupBelow_0 rfl (lv_at hl 1 rfl) ?_
  refine lv_bipush (v := (nI (8))) hx hb d_D_groupBelow_1 (by decide) ?_
  refine lv_imul hx hb d_D_groupBelow_3 ?_
  refine lv_topi (nm_r (e' := (nI (k * 8))) (pk_mul _ _) ?_)
  refine lv_istore_n (lv' := [(3, .int (nI (k * 8))), (0, .ref (ad 1)), (1, .int (nI (k))), (2, .int (nI (n)))]) hx hb d_D_groupBelow_4 rfl hl (by decide) rfl (fun ls hl => ?_)
  refine lv_iload_n hx hb d_D_groupBelow_5 rfl (lv_at hl 0 rfl) ?_
  refine lv_bipush (v := (nI (8))) hx hb d_D_groupBelow_6 (by decide) ?_
  refine lv_iadd hx hb d_D_groupBelow_8 ?_
  refine lv_topi (nm_r (e' := (nI ((k * 8) + 8))) (nI_add _ _) ?_)
  refine lv_iload_n hx hb d_D_groupBelow_9 rfl (lv_at hl 3 rfl) ?_
  refine tl_cgt (tgt := 26) (by omega) (by omega) hx hb d_D_groupBelow_10 (by decide) (fun h10 => ?_) (fun h10 => ?_)
  · -- 10 t
    refine lv_lconst (v := 0) hx hb d_D_groupBelow_26 (by decide) ?_
    exact W.lret hx hb hr (fun t9 ht9 _ => ⟨(0), rfl, (by first | rw [if_pos h10] | rw [if_neg (by omega)]), ht9⟩) (fun q h => by cases h) d_D_groupBelow_27
  · -- 10 f
    refine lv_aload_n hx hb d_D_groupBelow_13 rfl (lv_at hl 1 rfl) ?_
    refine va_get (ci := 1) (v := .ref (ad 4)) (C := R_D) (T := F_D) (N := 10) hx hb hw iw_D hown hE.1 hP 1 rfl rfl 0 (by decide) (hw _ tl_m20) (fun _ h9 => h9) rfl d_D_groupBelow_14 ?_
    refine lv_iload_n hx hb d_D_groupBelow_17 rfl (lv_at hl 0 rfl) ?_
    refine lv_bipush (v := (nI (8))) hx hb d_D_groupBelow_18 (by decide) ?_
    refine tl_goL (v := (tl_root E (k * 8) 8)) (va_runSN (As := [.ref (ad 4), .int (nI (k * 8)), .int (nI (8))]) (rest := []) ⟨hx, hb, hml, hown, hw⟩ (c_H_ofRow l D cJ cI cG cZ (ad 4) E 6 (by omega) (k * 8) 8 (by omega) (by omega)) (⟨tl_cN hw tl_m75 tl_m4 (tl_n5 hE.2) dd_H_ofRow rfl rfl ⟨Nat.le_of_ble_eq_true rfl, Nat.le_of_ble_eq_true rfl⟩, hw _ tl_m74, trivial⟩) (tl_preS hE (hP.sub [4] rfl)) rfl rfl hl.1 rfl (lv_room (Nat.le_of_ble_eq_true rfl)) d_D_groupBelow_20 ⟨Nat.zero_le _, Nat.zero_le _⟩) ?_
    refine lv_goto (tgt := 27) hx hb d_D_groupBelow_23 (by decide) ?_
    exact W.lret hx hb hr (fun t9 ht9 _ => ⟨(tl_root E (k * 8) 8), rfl, (by first | rw [if_pos h10] | rw [if_neg (by omega)]), ht9⟩) (fun q h => by cases h) d_D_groupBelow_27
