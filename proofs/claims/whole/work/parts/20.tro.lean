set_option maxHeartbeats 4000000 in
set_option maxRecDepth 100000 in
theorem c_T_writes (l : Launch) (D : va_G) (cJ cI cG cZ : ClassId) (ad : Nat → Nat) (E : Nat → Int64) (nf : Nat) (T : Nat → Nat → Int64) (hn hs : Nat → Int32) (rt : Nat → Int64) (dn : Bool) (wm cr : Int32) (pf : Nat → Int64) (pl : Nat) (O : Nat → Int64) (ol : Nat) (r8 : Nat → Int64) (L : Nat) (sz : Nat → Nat) (Lp : List Int64)  (hI : tl_H nf hn hs L sz pf pl Lp ol) : Met l y_T_writes (k_T_writes :: tl_ws) { frames := 0, cells := 0, slots := 0, locals := 0 } (tl_Pc D cJ cI cG cZ [.ref (ad 0)] (fun H => va_P D tl_cl (tl_W cJ cI cG ad E nf T hn hs rt dn wm cr pf pl O ol r8) H)) (vp_Si (fun r => r = wm)) 0 0 (fun _ => False) := by
  refine Met.ofW (cc := b_T_writes) (maxL := 1) (ret := (some .int)) (by decide) rfl ?_
  intro p e s m args below meth c s₁ B hml hv
  obtain ⟨rfl, hE, hP⟩ := hv
  have hx := B.exec
  have hb := B.bytes
  have hr := B.returns
  have hw : ∀ w ∈ tl_ws, w.before ([.ref (ad 0)] : List Value).toArray s = true := fun w h => atoms_spec (ws := k_T_writes :: tl_ws) B.pre w (List.mem_cons_of_mem _ h)
  have hown : s.vm.findClass R_T = some m.cls := findClass_of_methodNamed B.named
  have hlocks := B.notSynchronized
  have hl := lv_entry ([.ref (ad 0)]) (n := 1) (Nat.le_of_ble_eq_true rfl)
  rw [lg_entry_eq]
  generalize (lg_sl ([.ref (ad 0)]) ++ List.replicate (1 - (lg_sl ([.ref (ad 0)])).length) Slot.unset).toArray = ls at hl ⊢
  have hl : lv_has ls 1 [(0, .ref (ad 0))] := hl
  have hP : va_P D tl_cl (tl_W cJ cI cG ad E nf T hn hs rt dn wm cr pf pl O ol r8) s.heap := hP
  obtain ⟨hnf, hL, hh, hz, hsz, hpl, hpf, hp7, hol⟩ := hI
  have hpub : tl_pub L sz ≤ 64 := Nat.le_trans (tl_pub_le hsz) hnf
  refine lv_aload_n hx hb d_T_writes_0 rfl (lv_at hl 0 rfl) ?_
  refine va_get (ci := 0) (v := .ref (ad 1)) (C := R_T) (T := F_T) (N := 5) hx hb hw iw_T hown hE.1 hP 0 rfl rfl 0 (by decide) (hw _ tl_m32) (fun _ h9 => h9) rfl d_T_writes_1 ?_
  refine va_getN (ci := 1) (v := .int (wm)) (C := R_D) (T := F_D) (N := 10) hx hb hw iw_D hown hE.1 hP 1 rfl rfl 7 (by decide) (tl_f5 hE.2) (fun _ h9 => h9) rfl d_T_writes_4 ?_
  exact W.iret hx hb hr (fun t9 ht9 _ => ⟨(wm), rfl, rfl, ht9⟩) (fun q h => by cases h) d_T_writes_7

set_option maxHeartbeats 4000000 in
set_option maxRecDepth 100000 in
theorem c_T_length (l : Launch) (D : va_G) (cJ cI cG cZ : ClassId) (ad : Nat → Nat) (E : Nat → Int64) (nf : Nat) (T : Nat → Nat → Int64) (hn hs : Nat → Int32) (rt : Nat → Int64) (dn : Bool) (wm cr : Int32) (pf : Nat → Int64) (pl : Nat) (O : Nat → Int64) (ol : Nat) (r8 : Nat → Int64) (L : Nat) (sz : Nat → Nat) (Lp : List Int64)  (hI : tl_H nf hn hs L sz pf pl Lp ol) : Met l y_T_length (k_T_length :: tl_ws) { frames := 0, cells := 0, slots := 0, locals := 0 } (tl_Pc D cJ cI cG cZ [.ref (ad 0)] (fun H => va_P D tl_cl (tl_W cJ cI cG ad E nf T hn hs rt dn wm cr pf pl O ol r8) H)) (vp_Si (fun r => r = tl_lenA dn nf)) 0 0 (fun _ => False) := by
  refine Met.ofW (cc := b_T_length) (maxL := 1) (ret := (some .int)) (by decide) rfl ?_
  intro p e s m args below meth c s₁ B hml hv
  obtain ⟨rfl, hE, hP⟩ := hv
  have hx := B.exec
  have hb := B.bytes
  have hr := B.returns
  have hw : ∀ w ∈ tl_ws, w.before ([.ref (ad 0)] : List Value).toArray s = true := fun w h => atoms_spec (ws := k_T_length :: tl_ws) B.pre w (List.mem_cons_of_mem _ h)
  have hown : s.vm.findClass R_T = some m.cls := findClass_of_methodNamed B.named
  have hlocks := B.notSynchronized
  have hl := lv_entry ([.ref (ad 0)]) (n := 1) (Nat.le_of_ble_eq_true rfl)
  rw [lg_entry_eq]
  generalize (lg_sl ([.ref (ad 0)]) ++ List.replicate (1 - (lg_sl ([.ref (ad 0)])).length) Slot.unset).toArray = ls at hl ⊢
  have hl : lv_has ls 1 [(0, .ref (ad 0))] := hl
  have hP : va_P D tl_cl (tl_W cJ cI cG ad E nf T hn hs rt dn wm cr pf pl O ol r8) s.heap := hP
  obtain ⟨hnf, hL, hh, hz, hsz, hpl, hpf, hp7, hol⟩ := hI
  have hpub : tl_pub L sz ≤ 64 := Nat.le_trans (tl_pub_le hsz) hnf
  refine lv_aload_n hx hb d_T_length_0 rfl (lv_at hl 0 rfl) ?_
  refine va_get (ci := 0) (v := .ref (ad 1)) (C := R_T) (T := F_T) (N := 5) hx hb hw iw_T hown hE.1 hP 0 rfl rfl 0 (by decide) (hw _ tl_m32) (fun _ h9 => h9) rfl d_T_length_1 ?_
  refine va_getN (ci := 1) (v := .int (tl_bi (dn))) (C := R_D) (T := F_D) (N := 10) hx hb hw iw_D hown hE.1 hP 1 rfl rfl 9 (by decide) (tl_f7 hE.2) (fun _ h9 => h9) rfl d_T_length_4 ?_
  refine tl_beq (tgt := 15) hx hb d_T_length_7 (by decide) (fun h7 => ?_) (fun h7 => ?_)
  · -- 7 t
    refine lv_aload_n hx hb d_T_length_15 rfl (lv_at hl 0 rfl) ?_
    refine va_get (ci := 0) (v := .ref (ad 1)) (C := R_T) (T := F_T) (N := 5) hx hb hw iw_T hown hE.1 hP 0 rfl rfl 0 (by decide) (hw _ tl_m32) (fun _ h9 => h9) rfl d_T_length_16 ?_
    refine va_getN (ci := 1) (v := .int (nI (nf))) (C := R_D) (T := F_D) (N := 10) hx hb hw iw_D hown hE.1 hP 1 rfl rfl 6 (by decide) (tl_f4 hE.2) (fun _ h9 => h9) rfl d_T_length_19 ?_
    exact W.iret hx hb hr (fun t9 ht9 _ => ⟨(nI (nf)), rfl, (by first | (rw [h7]; rfl) | (subst h7; rfl)), ht9⟩) (fun q h => by cases h) d_T_length_22
  · -- 7 f
    refine lv_bipush (v := (-2)) hx hb d_T_length_10 (by decide) ?_
    refine lv_goto (tgt := 22) hx hb d_T_length_12 (by decide) ?_
    exact W.iret hx hb hr (fun t9 ht9 _ => ⟨(-2), rfl, (by first | (rw [h7]; rfl) | (subst h7; rfl)), ht9⟩) (fun q h => by cases h) d_T_length_22

set_option maxHeartbeats 4000000 in
set_option maxRecDepth 100000 in
theorem c_T_size (l : Launch) (D : va_G) (cJ cI cG cZ : ClassId) (ad : Nat → Nat) (E : Nat → Int64) (nf : Nat) (T : Nat → Nat → Int64) (hn hs : Nat → Int32) (rt : Nat → Int64) (dn : Bool) (wm cr : Int32) (pf : Nat → Int64) (pl : Nat) (O : Nat → Int64) (ol : Nat) (r8 : Nat → Int64) (L : Nat) (sz : Nat → Nat) (Lp : List Int64) (x : Int32) (hI : tl_H nf hn hs L sz pf pl Lp ol) : Met l y_T_size (k_T_size :: tl_ws) { frames := 1, cells := 0, slots := 0, locals := 21 } (tl_Pc D cJ cI cG cZ [.ref (ad 0), .int (x)] (fun H => va_P D tl_cl (tl_W cJ cI cG ad E nf T hn hs rt dn wm cr pf pl O ol r8) H)) (vp_Si (fun r => r = tl_szA L sz x)) 0 0 (fun _ => False) := by
  refine Met.ofW (cc := b_T_size) (maxL := 2) (ret := (some .int)) (by decide) rfl ?_
  intro p e s m args below meth c s₁ B hml hv
  obtain ⟨rfl, hE, hP⟩ := hv
  have hx := B.exec
  have hb := B.bytes
  have hr := B.returns
  have hw : ∀ w ∈ tl_ws, w.before ([.ref (ad 0), .int (x)] : List Value).toArray s = true := fun w h => atoms_spec (ws := k_T_size :: tl_ws) B.pre w (List.mem_cons_of_mem _ h)
  have hown : s.vm.findClass R_T = some m.cls := findClass_of_methodNamed B.named
  have hlocks := B.notSynchronized
  have hl := lv_entry ([.ref (ad 0), .int (x)]) (n := 2) (Nat.le_of_ble_eq_true rfl)
  rw [lg_entry_eq]
  generalize (lg_sl ([.ref (ad 0), .int (x)]) ++ List.replicate (2 - (lg_sl ([.ref (ad 0), .int (x)])).length) Slot.unset).toArray = ls at hl ⊢
  have hl : lv_has ls 2 [(0, .ref (ad 0)), (1, .int (x))] := hl
  have hP : va_P D tl_cl (tl_W cJ cI cG ad E nf T hn hs rt dn wm cr pf pl O ol r8) s.heap := hP
  obtain ⟨hnf, hL, hh, hz, hsz, hpl, hpf, hp7, hol⟩ := hI
  have hpub : tl_pub L sz ≤ 64 := Nat.le_trans (tl_pub_le hsz) hnf
  refine lv_aload_n hx hb d_T_size_0 rfl (lv_at hl 0 rfl) ?_
  refine va_get (ci := 0) (v := .ref (ad 1)) (C := R_T) (T := F_T) (N := 5) hx hb hw iw_T hown hE.1 hP 0 rfl rfl 0 (by decide) (hw _ tl_m32) (fun _ h9 => h9) rfl d_T_size_1 ?_
  refine lv_iload_n hx hb d_T_size_4 rfl (lv_at hl 1 rfl) ?_
  refine tl_goI (v := (tl_bi (tl_has L (x)))) (va_runVN (As := [.int (x)]) (rest := []) ⟨hx, hb, hml, hown, hw⟩ (c_D_hasHead l D cJ cI cG cZ ad E nf T hn hs rt dn wm cr pf pl O ol r8 L sz (x) hL hh hz) (⟨tl_cN hw tl_m116 tl_m2 (tl_n9 hE.2) dd_D_hasHead rfl rfl ⟨Nat.le_of_ble_eq_true rfl, Nat.le_of_ble_eq_true rfl⟩, hw _ tl_m115, hw _ tl_m364⟩) (tl_preV hE hP (va_recv (q0 := 1) (ci := 1) (q := (R_D, F_D, 10)) hE.1 hP rfl rfl)) rfl rfl hl.1 rfl (lv_room (Nat.le_of_ble_eq_true rfl)) d_T_size_5 ⟨Nat.zero_le _, Nat.zero_le _⟩) ?_
  refine tl_beq (tgt := 23) hx hb d_T_size_8 (by decide) (fun h8 => ?_) (fun h8 => ?_)
  · -- 8 t
    refine lv_iconst (v := (-1)) hx hb d_T_size_23 (by decide) ?_
    exact W.iret hx hb hr (fun t9 ht9 _ => ⟨(-1), rfl, (by unfold tl_szA; rw [h8]; first | rfl | (rw [nI_clamp (by omega)]; rfl)), ht9⟩) (fun q h => by cases h) d_T_size_24
  · -- 8 f
    obtain ⟨j, hj, rfl⟩ := tl_has_ex h8
    refine lv_aload_n hx hb d_T_size_11 rfl (lv_at hl 0 rfl) ?_
    refine va_get (ci := 0) (v := .ref (ad 1)) (C := R_T) (T := F_T) (N := 5) hx hb hw iw_T hown hE.1 hP 0 rfl rfl 0 (by decide) (hw _ tl_m32) (fun _ h9 => h9) rfl d_T_size_12 ?_
    refine va_getN (ci := 1) (v := .ref (ad 7)) (C := R_D) (T := F_D) (N := 10) hx hb hw iw_D hown hE.1 hP 1 rfl rfl 3 (by decide) (tl_f2 hE.2) (fun _ h9 => h9) rfl d_T_size_15 ?_
    refine lv_iload_n hx hb d_T_size_18 rfl (lv_at hl 1 rfl) ?_
    refine tl_iald (a := j) hx hb hE.1 hP 7 1 rfl rfl (by omega) (by decide) d_T_size_19 ?_
    refine lv_topi (nm_r (e' := (nI (sz j))) (hz j hj) ?_)
    refine lv_goto (tgt := 24) hx hb d_T_size_20 (by decide) ?_
    exact W.iret hx hb hr (fun t9 ht9 _ => ⟨(nI (sz j)), rfl, (by unfold tl_szA; rw [h8]; first | rfl | (rw [nI_clamp (by omega)]; rfl)), ht9⟩) (fun q h => by cases h) d_T_size_24

set_option maxHeartbeats 4000000 in
set_option maxRecDepth 100000 in
theorem c_T_root (l : Launch) (D : va_G) (cJ cI cG cZ : ClassId) (ad : Nat → Nat) (E : Nat → Int64) (nf : Nat) (T : Nat → Nat → Int64) (hn hs : Nat → Int32) (rt : Nat → Int64) (dn : Bool) (wm cr : Int32) (pf : Nat → Int64) (pl : Nat) (O : Nat → Int64) (ol : Nat) (r8 : Nat → Int64) (L : Nat) (sz : Nat → Nat) (Lp : List Int64) (x : Int32) (hI : tl_H nf hn hs L sz pf pl Lp ol) : Met l y_T_root (k_T_root :: tl_ws) { frames := 1, cells := 0, slots := 0, locals := 21 } (tl_Pc D cJ cI cG cZ [.ref (ad 0), .int (x)] (fun H => va_P D tl_cl (tl_W cJ cI cG ad E nf T hn hs rt dn wm cr pf pl O ol r8) H)) (vp_Sl (fun r => r = tl_rtA L rt x)) 0 0 (fun _ => False) := by
  refine Met.ofW (cc := b_T_root) (maxL := 2) (ret := (some .long)) (by decide) rfl ?_
  intro p e s m args below meth c s₁ B hml hv
  obtain ⟨rfl, hE, hP⟩ := hv
  have hx := B.exec
  have hb := B.bytes
  have hr := B.returns
  have hw : ∀ w ∈ tl_ws, w.before ([.ref (ad 0), .int (x)] : List Value).toArray s = true := fun w h => atoms_spec (ws := k_T_root :: tl_ws) B.pre w (List.mem_cons_of_mem _ h)
  have hown : s.vm.findClass R_T = some m.cls := findClass_of_methodNamed B.named
  have hlocks := B.notSynchronized
  have hl := lv_entry ([.ref (ad 0), .int (x)]) (n := 2) (Nat.le_of_ble_eq_true rfl)
  rw [lg_entry_eq]
  generalize (lg_sl ([.ref (ad 0), .int (x)]) ++ List.replicate (2 - (lg_sl ([.ref (ad 0), .int (x)])).length) Slot.unset).toArray = ls at hl ⊢
  have hl : lv_has ls 2 [(0, .ref (ad 0)), (1, .int (x))] := hl
  have hP : va_P D tl_cl (tl_W cJ cI cG ad E nf T hn hs rt dn wm cr pf pl O ol r8) s.heap := hP
  obtain ⟨hnf, hL, hh, hz, hsz, hpl, hpf, hp7, hol⟩ := hI
  have hpub : tl_pub L sz ≤ 64 := Nat.le_trans (tl_pub_le hsz) hnf
  refine lv_aload_n hx hb d_T_root_0 rfl (lv_at hl 0 rfl) ?_
  refine va_get (ci := 0) (v := .ref (ad 1)) (C := R_T) (T := F_T) (N := 5) hx hb hw iw_T hown hE.1 hP 0 rfl rfl 0 (by decide) (hw _ tl_m32) (fun _ h9 => h9) rfl d_T_root_1 ?_
  refine lv_iload_n hx hb d_T_root_4 rfl (lv_at hl 1 rfl) ?_
  refine tl_goI (v := (tl_bi (tl_has L (x)))) (va_runVN (As := [.int (x)]) (rest := []) ⟨hx, hb, hml, hown, hw⟩ (c_D_hasHead l D cJ cI cG cZ ad E nf T hn hs rt dn wm cr pf pl O ol r8 L sz (x) hL hh hz) (⟨tl_cN hw tl_m116 tl_m2 (tl_n9 hE.2) dd_D_hasHead rfl rfl ⟨Nat.le_of_ble_eq_true rfl, Nat.le_of_ble_eq_true rfl⟩, hw _ tl_m115, hw _ tl_m364⟩) (tl_preV hE hP (va_recv (q0 := 1) (ci := 1) (q := (R_D, F_D, 10)) hE.1 hP rfl rfl)) rfl rfl hl.1 rfl (lv_room (Nat.le_of_ble_eq_true rfl)) d_T_root_5 ⟨Nat.zero_le _, Nat.zero_le _⟩) ?_
  refine tl_beq (tgt := 23) hx hb d_T_root_8 (by decide) (fun h8 => ?_) (fun h8 => ?_)
  · -- 8 t
    refine lv_lconst (v := 0) hx hb d_T_root_23 (by decide) ?_
    exact W.lret hx hb hr (fun t9 ht9 _ => ⟨(0), rfl, (by unfold tl_rtA; rw [h8]; first | rfl | (rw [nI_clamp (by omega)]; rfl)), ht9⟩) (fun q h => by cases h) d_T_root_24
  · -- 8 f
    obtain ⟨j, hj, rfl⟩ := tl_has_ex h8
    refine lv_aload_n hx hb d_T_root_11 rfl (lv_at hl 0 rfl) ?_
    refine va_get (ci := 0) (v := .ref (ad 1)) (C := R_T) (T := F_T) (N := 5) hx hb hw iw_T hown hE.1 hP 0 rfl rfl 0 (by decide) (hw _ tl_m32) (fun _ h9 => h9) rfl d_T_root_12 ?_
    refine va_getN (ci := 1) (v := .ref (ad 8)) (C := R_D) (T := F_D) (N := 10) hx hb hw iw_D hown hE.1 hP 1 rfl rfl 4 (by decide) (tl_f3 hE.2) (fun _ h9 => h9) rfl d_T_root_15 ?_
    refine lv_iload_n hx hb d_T_root_18 rfl (lv_at hl 1 rfl) ?_
    refine tl_lald (a := j) hx hb hE.1 hP 8 0 rfl rfl (by omega) (by decide) d_T_root_19 ?_
    refine lv_goto (tgt := 24) hx hb d_T_root_20 (by decide) ?_
    exact W.lret hx hb hr (fun t9 ht9 _ => ⟨(rt j), rfl, (by unfold tl_rtA; rw [h8]; first | rfl | (rw [nI_clamp (by omega)]; rfl)), ht9⟩) (fun q h => by cases h) d_T_root_24

set_option maxHeartbeats 4000000 in
set_option maxRecDepth 100000 in
theorem c_T_latest (l : Launch) (D : va_G) (cJ cI cG cZ : ClassId) (ad : Nat → Nat) (E : Nat → Int64) (nf : Nat) (T : Nat → Nat → Int64) (hn hs : Nat → Int32) (rt : Nat → Int64) (dn : Bool) (wm cr : Int32) (pf : Nat → Int64) (pl : Nat) (O : Nat → Int64) (ol : Nat) (r8 : Nat → Int64) (L : Nat) (sz : Nat → Nat) (Lp : List Int64)  (hI : tl_H nf hn hs L sz pf pl Lp ol) : Met l y_T_latest (k_T_latest :: tl_ws) { frames := 2, cells := 0, slots := 0, locals := 40 } (tl_Pc D cJ cI cG cZ [.ref (ad 0)] (fun H => va_P D tl_cl (tl_W cJ cI cG ad E nf T hn hs rt dn wm cr pf pl O ol r8) H)) (vp_Si (fun r => r = nI L)) 0 0 (fun _ => False) := by
  refine Met.ofW (cc := b_T_latest) (maxL := 1) (ret := (some .int)) (by decide) rfl ?_
  intro p e s m args below meth c s₁ B hml hv
  obtain ⟨rfl, hE, hP⟩ := hv
  have hx := B.exec
  have hb := B.bytes
  have hr := B.returns
  have hw : ∀ w ∈ tl_ws, w.before ([.ref (ad 0)] : List Value).toArray s = true := fun w h => atoms_spec (ws := k_T_latest :: tl_ws) B.pre w (List.mem_cons_of_mem _ h)
  have hown : s.vm.findClass R_T = some m.cls := findClass_of_methodNamed B.named
  have hlocks := B.notSynchronized
  have hl := lv_entry ([.ref (ad 0)]) (n := 1) (Nat.le_of_ble_eq_true rfl)
  rw [lg_entry_eq]
  generalize (lg_sl ([.ref (ad 0)]) ++ List.replicate (1 - (lg_sl ([.ref (ad 0)])).length) Slot.unset).toArray = ls at hl ⊢
  have hl : lv_has ls 1 [(0, .ref (ad 0))] := hl
  have hP : va_P D tl_cl (tl_W cJ cI cG ad E nf T hn hs rt dn wm cr pf pl O ol r8) s.heap := hP
  obtain ⟨hnf, hL, hh, hz, hsz, hpl, hpf, hp7, hol⟩ := hI
  have hpub : tl_pub L sz ≤ 64 := Nat.le_trans (tl_pub_le hsz) hnf
  refine lv_aload_n hx hb d_T_latest_0 rfl (lv_at hl 0 rfl) ?_
  refine va_get (ci := 0) (v := .ref (ad 1)) (C := R_T) (T := F_T) (N := 5) hx hb hw iw_T hown hE.1 hP 0 rfl rfl 0 (by decide) (hw _ tl_m32) (fun _ h9 => h9) rfl d_T_latest_1 ?_
  refine tl_goI (v := (nI (L))) (va_runVN (As := []) (rest := []) ⟨hx, hb, hml, hown, hw⟩ (c_D_latestNumber l D cJ cI cG cZ ad E nf T hn hs rt dn wm cr pf pl O ol r8  L sz hL hh hz) (⟨tl_cN hw tl_m92 tl_m2 (tl_n6 hE.2) dd_D_latestNumber rfl rfl ⟨Nat.le_of_ble_eq_true rfl, Nat.le_of_ble_eq_true rfl⟩, hw _ tl_m91, hw _ tl_m362⟩) (tl_preV hE hP (va_recv (q0 := 1) (ci := 1) (q := (R_D, F_D, 10)) hE.1 hP rfl rfl)) rfl rfl hl.1 rfl (lv_room (Nat.le_of_ble_eq_true rfl)) d_T_latest_4 ⟨Nat.zero_le _, Nat.zero_le _⟩) ?_
  exact W.iret hx hb hr (fun t9 ht9 _ => ⟨(nI (L)), rfl, rfl, ht9⟩) (fun q h => by cases h) d_T_latest_7

set_option maxHeartbeats 4000000 in
set_option maxRecDepth 100000 in
theorem c_T_tile (l : Launch) (D : va_G) (cJ cI cG cZ : ClassId) (ad : Nat → Nat) (E : Nat → Int64) (nf : Nat) (T : Nat → Nat → Int64) (hn hs : Nat → Int32) (rt : Nat → Int64) (dn : Bool) (wm cr : Int32) (pf : Nat → Int64) (pl : Nat) (O : Nat → Int64) (ol : Nat) (r8 : Nat → Int64) (L : Nat) (sz : Nat → Nat) (Lp : List Int64) (b t i : Int32) (hI : tl_H nf hn hs L sz pf pl Lp ol) : Met l y_T_tile (k_T_tile :: tl_ws) { frames := 0, cells := 0, slots := 0, locals := 0 } (tl_Pc D cJ cI cG cZ [.ref (ad 0), .int (b), .int (t), .int (i)] (fun H => va_P D tl_cl (tl_W cJ cI cG ad E nf T hn hs rt dn wm cr pf pl O ol r8) H)) (vp_Sl (fun r => r = tl_tileA T b t i)) 0 0 (fun _ => False) := by
  refine Met.ofW (cc := b_T_tile) (maxL := 4) (ret := (some .long)) (by decide) rfl ?_
  intro p e s m args below meth c s₁ B hml hv
  obtain ⟨rfl, hE, hP⟩ := hv
  have hx := B.exec
  have hb := B.bytes
  have hr := B.returns
  have hw : ∀ w ∈ tl_ws, w.before ([.ref (ad 0), .int (b), .int (t), .int (i)] : List Value).toArray s = true := fun w h => atoms_spec (ws := k_T_tile :: tl_ws) B.pre w (List.mem_cons_of_mem _ h)
  have hown : s.vm.findClass R_T = some m.cls := findClass_of_methodNamed B.named
  have hlocks := B.notSynchronized
  have hl := lv_entry ([.ref (ad 0), .int (b), .int (t), .int (i)]) (n := 4) (Nat.le_of_ble_eq_true rfl)
  rw [lg_entry_eq]
  generalize (lg_sl ([.ref (ad 0), .int (b), .int (t), .int (i)]) ++ List.replicate (4 - (lg_sl ([.ref (ad 0), .int (b), .int (t), .int (i)])).length) Slot.unset).toArray = ls at hl ⊢
  have hl : lv_has ls 4 [(0, .ref (ad 0)), (1, .int (b)), (2, .int (t)), (3, .int (i))] := hl
  have hP : va_P D tl_cl (tl_W cJ cI cG ad E nf T hn hs rt dn wm cr pf pl O ol r8) s.heap := hP
  obtain ⟨hnf, hL, hh, hz, hsz, hpl, hpf, hp7, hol⟩ := hI
  have hpub : tl_pub L sz ≤ 64 := Nat.le_trans (tl_pub_le hsz) hnf
  refine lv_iload_n hx hb d_T_tile_0 rfl (lv_at hl 3 rfl) ?_
  refine lv_if_lt (tgt := 10) hx hb d_T_tile_1 (by decide) (fun h1 => ?_) (fun h1 => ?_)
  · -- 1 t
    refine lv_lconst (v := 0) hx hb d_T_tile_10 (by decide) ?_
    exact W.lret hx hb hr (fun t9 ht9 _ => ⟨(0), rfl, (by unfold tl_tileA; first | rw [if_pos h1] | rw [if_neg h1, if_pos (Int32.not_lt.mp h7)]), ht9⟩) (fun q h => by cases h) d_T_tile_11
  · -- 1 f
    refine lv_iload_n hx hb d_T_tile_4 rfl (lv_at hl 3 rfl) ?_
    refine lv_bipush (v := (nI (8))) hx hb d_T_tile_5 (by decide) ?_
    refine lv_icmp_lt (tgt := 12) hx hb d_T_tile_7 (by decide) (fun h7 => ?_) (fun h7 => ?_)
    · -- 7 t
      have h7 : ¬ nI 8 ≤ i := fun q => absurd h7 (Int32.not_lt.mpr q)
      obtain ⟨j, hj, rfl⟩ := tl_ix (by omega) h1 h7
      refine lv_iload_n hx hb d_T_tile_12 rfl (lv_at hl 1 rfl) ?_
      refine lv_if_ne (tgt := 38) hx hb d_T_tile_13 (by decide) (fun h13 => ?_) (fun h13 => ?_)
      · -- 13 t
        refine lv_iload_n hx hb d_T_tile_38 rfl (lv_at hl 1 rfl) ?_
        refine lv_iconst (v := (nI (1))) hx hb d_T_tile_39 (by decide) ?_
        refine lv_icmp_ne (tgt := 62) hx hb d_T_tile_40 (by decide) (fun h40 => ?_) (fun h40 => ?_)
        · -- 40 t
          refine lv_lconst (v := 0) hx hb d_T_tile_62 (by decide) ?_
          exact W.lret hx hb hr (fun t9 ht9 _ => ⟨(0), rfl, (by unfold tl_tileA; rw [if_neg h1, if_neg h7]; first | (rw [if_pos h13, if_pos h17]; done) | (rw [if_pos h13, if_neg h17, if_pos h23]; done) | (rw [if_neg h13, if_pos h40, if_pos h44, nI_clamp (by omega)]; done) | (rw [if_neg h13, if_pos h40, if_neg h44]; done) | (rw [if_neg h13, if_neg h40]; done) | exact absurd (h13.symm.trans h40) (by decide)), ht9⟩) (fun q h => by cases h) d_T_tile_63
        · -- 40 f
          refine lv_iload_n hx hb d_T_tile_43 rfl (lv_at hl 2 rfl) ?_
          refine lv_if_ne (tgt := 62) hx hb d_T_tile_44 (by decide) (fun h44 => ?_) (fun h44 => ?_)
          · -- 44 t
            refine lv_lconst (v := 0) hx hb d_T_tile_62 (by decide) ?_
            exact W.lret hx hb hr (fun t9 ht9 _ => ⟨(0), rfl, (by unfold tl_tileA; rw [if_neg h1, if_neg h7]; first | (rw [if_pos h13, if_pos h17]; done) | (rw [if_pos h13, if_neg h17, if_pos h23]; done) | (rw [if_neg h13, if_pos h40, if_pos h44, nI_clamp (by omega)]; done) | (rw [if_neg h13, if_pos h40, if_neg h44]; done) | (rw [if_neg h13, if_neg h40]; done) | exact absurd (h13.symm.trans h40) (by decide)), ht9⟩) (fun q h => by cases h) d_T_tile_63
          · -- 44 f
            refine lv_aload_n hx hb d_T_tile_47 rfl (lv_at hl 0 rfl) ?_
            refine va_get (ci := 0) (v := .ref (ad 1)) (C := R_T) (T := F_T) (N := 5) hx hb hw iw_T hown hE.1 hP 0 rfl rfl 0 (by decide) (hw _ tl_m32) (fun _ h9 => h9) rfl d_T_tile_48 ?_
            refine va_getN (ci := 1) (v := .ref (ad 5)) (C := R_D) (T := F_D) (N := 10) hx hb hw iw_D hown hE.1 hP 1 rfl rfl 1 (by decide) (tl_f1 hE.2) (fun _ h9 => h9) rfl d_T_tile_51 ?_
            refine lv_bipush (v := (nI (8))) hx hb d_T_tile_54 (by decide) ?_
            refine tl_aald (a := 8) hx hb hE.1 hP 5 2 rfl rfl (by omega) (by decide) rfl d_T_tile_56 ?_
            refine lv_iload_n hx hb d_T_tile_57 rfl (lv_at hl 3 rfl) ?_
            refine tl_lald (a := j) hx hb hE.1 hP (10 + 8) 0 (tl_Wt (by omega)) rfl (by omega) (by decide) d_T_tile_58 ?_
            refine lv_goto (tgt := 63) hx hb d_T_tile_59 (by decide) ?_
            exact W.lret hx hb hr (fun t9 ht9 _ => ⟨(T 8 j), rfl, (by unfold tl_tileA; rw [if_neg h1, if_neg h7]; first | (rw [if_pos h13, if_pos h17]; done) | (rw [if_pos h13, if_neg h17, if_pos h23]; done) | (rw [if_neg h13, if_pos h40, if_pos h44, nI_clamp (by omega)]; done) | (rw [if_neg h13, if_pos h40, if_neg h44]; done) | (rw [if_neg h13, if_neg h40]; done) | exact absurd (h13.symm.trans h40) (by decide)), ht9⟩) (fun q h => by cases h) d_T_tile_63
      · -- 13 f
        refine lv_iload_n hx hb d_T_tile_16 rfl (lv_at hl 2 rfl) ?_
        refine lv_if_lt (tgt := 38) hx hb d_T_tile_17 (by decide) (fun h17 => ?_) (fun h17 => ?_)
        · -- 17 t
          refine lv_iload_n hx hb d_T_tile_38 rfl (lv_at hl 1 rfl) ?_
          refine lv_iconst (v := (nI (1))) hx hb d_T_tile_39 (by decide) ?_
          refine lv_icmp_ne (tgt := 62) hx hb d_T_tile_40 (by decide) (fun h40 => ?_) (fun h40 => ?_)
          · -- 40 t
            refine lv_lconst (v := 0) hx hb d_T_tile_62 (by decide) ?_
            exact W.lret hx hb hr (fun t9 ht9 _ => ⟨(0), rfl, (by unfold tl_tileA; rw [if_neg h1, if_neg h7]; first | (rw [if_pos h13, if_pos h17]; done) | (rw [if_pos h13, if_neg h17, if_pos h23]; done) | (rw [if_neg h13, if_pos h40, if_pos h44, nI_clamp (by omega)]; done) | (rw [if_neg h13, if_pos h40, if_neg h44]; done) | (rw [if_neg h13, if_neg h40]; done) | exact absurd (h13.symm.trans h40) (by decide)), ht9⟩) (fun q h => by cases h) d_T_tile_63
          · -- 40 f
            refine lv_iload_n hx hb d_T_tile_43 rfl (lv_at hl 2 rfl) ?_
            refine lv_if_ne (tgt := 62) hx hb d_T_tile_44 (by decide) (fun h44 => ?_) (fun h44 => ?_)
            · -- 44 t
              refine lv_lconst (v := 0) hx hb d_T_tile_62 (by decide) ?_
              exact W.lret hx hb hr (fun t9 ht9 _ => ⟨(0), rfl, (by unfold tl_tileA; rw [if_neg h1, if_neg h7]; first | (rw [if_pos h13, if_pos h17]; done) | (rw [if_pos h13, if_neg h17, if_pos h23]; done) | (rw [if_neg h13, if_pos h40, if_pos h44, nI_clamp (by omega)]; done) | (rw [if_neg h13, if_pos h40, if_neg h44]; done) | (rw [if_neg h13, if_neg h40]; done) | exact absurd (h13.symm.trans h40) (by decide)), ht9⟩) (fun q h => by cases h) d_T_tile_63
            · -- 44 f
              refine lv_aload_n hx hb d_T_tile_47 rfl (lv_at hl 0 rfl) ?_
              refine va_get (ci := 0) (v := .ref (ad 1)) (C := R_T) (T := F_T) (N := 5) hx hb hw iw_T hown hE.1 hP 0 rfl rfl 0 (by decide) (hw _ tl_m32) (fun _ h9 => h9) rfl d_T_tile_48 ?_
              refine va_getN (ci := 1) (v := .ref (ad 5)) (C := R_D) (T := F_D) (N := 10) hx hb hw iw_D hown hE.1 hP 1 rfl rfl 1 (by decide) (tl_f1 hE.2) (fun _ h9 => h9) rfl d_T_tile_51 ?_
              refine lv_bipush (v := (nI (8))) hx hb d_T_tile_54 (by decide) ?_
              refine tl_aald (a := 8) hx hb hE.1 hP 5 2 rfl rfl (by omega) (by decide) rfl d_T_tile_56 ?_
              refine lv_iload_n hx hb d_T_tile_57 rfl (lv_at hl 3 rfl) ?_
              refine tl_lald (a := j) hx hb hE.1 hP (10 + 8) 0 (tl_Wt (by omega)) rfl (by omega) (by decide) d_T_tile_58 ?_
              refine lv_goto (tgt := 63) hx hb d_T_tile_59 (by decide) ?_
              exact W.lret hx hb hr (fun t9 ht9 _ => ⟨(T 8 j), rfl, (by unfold tl_tileA; rw [if_neg h1, if_neg h7]; first | (rw [if_pos h13, if_pos h17]; done) | (rw [if_pos h13, if_neg h17, if_pos h23]; done) | (rw [if_neg h13, if_pos h40, if_pos h44, nI_clamp (by omega)]; done) | (rw [if_neg h13, if_pos h40, if_neg h44]; done) | (rw [if_neg h13, if_neg h40]; done) | exact absurd (h13.symm.trans h40) (by decide)), ht9⟩) (fun q h => by cases h) d_T_tile_63
        · -- 17 f
          refine lv_iload_n hx hb d_T_tile_20 rfl (lv_at hl 2 rfl) ?_
          refine lv_bipush (v := (nI (8))) hx hb d_T_tile_21 (by decide) ?_
          refine lv_icmp_ge (tgt := 38) hx hb d_T_tile_23 (by decide) (fun h23 => ?_) (fun h23 => ?_)
          · -- 23 t
            refine lv_iload_n hx hb d_T_tile_38 rfl (lv_at hl 1 rfl) ?_
            refine lv_iconst (v := (nI (1))) hx hb d_T_tile_39 (by decide) ?_
            refine lv_icmp_ne (tgt := 62) hx hb d_T_tile_40 (by decide) (fun h40 => ?_) (fun h40 => ?_)
            · -- 40 t
              refine lv_lconst (v := 0) hx hb d_T_tile_62 (by decide) ?_
              exact W.lret hx hb hr (fun t9 ht9 _ => ⟨(0), rfl, (by unfold tl_tileA; rw [if_neg h1, if_neg h7]; first | (rw [if_pos h13, if_pos h17]; done) | (rw [if_pos h13, if_neg h17, if_pos h23]; done) | (rw [if_neg h13, if_pos h40, if_pos h44, nI_clamp (by omega)]; done) | (rw [if_neg h13, if_pos h40, if_neg h44]; done) | (rw [if_neg h13, if_neg h40]; done) | exact absurd (h13.symm.trans h40) (by decide)), ht9⟩) (fun q h => by cases h) d_T_tile_63
            · -- 40 f
              refine lv_iload_n hx hb d_T_tile_43 rfl (lv_at hl 2 rfl) ?_
              refine lv_if_ne (tgt := 62) hx hb d_T_tile_44 (by decide) (fun h44 => ?_) (fun h44 => ?_)
              · -- 44 t
                refine lv_lconst (v := 0) hx hb d_T_tile_62 (by decide) ?_
                exact W.lret hx hb hr (fun t9 ht9 _ => ⟨(0), rfl, (by unfold tl_tileA; rw [if_neg h1, if_neg h7]; first | (rw [if_pos h13, if_pos h17]; done) | (rw [if_pos h13, if_neg h17, if_pos h23]; done) | (rw [if_neg h13, if_pos h40, if_pos h44, nI_clamp (by omega)]; done) | (rw [if_neg h13, if_pos h40, if_neg h44]; done) | (rw [if_neg h13, if_neg h40]; done) | exact absurd (h13.symm.trans h40) (by decide)), ht9⟩) (fun q h => by cases h) d_T_tile_63
              · -- 44 f
                refine lv_aload_n hx hb d_T_tile_47 rfl (lv_at hl 0 rfl) ?_
                refine va_get (ci := 0) (v := .ref (ad 1)) (C := R_T) (T := F_T) (N := 5) hx hb hw iw_T hown hE.1 hP 0 rfl rfl 0 (by decide) (hw _ tl_m32) (fun _ h9 => h9) rfl d_T_tile_48 ?_
                refine va_getN (ci := 1) (v := .ref (ad 5)) (C := R_D) (T := F_D) (N := 10) hx hb hw iw_D hown hE.1 hP 1 rfl rfl 1 (by decide) (tl_f1 hE.2) (fun _ h9 => h9) rfl d_T_tile_51 ?_
                refine lv_bipush (v := (nI (8))) hx hb d_T_tile_54 (by decide) ?_
                refine tl_aald (a := 8) hx hb hE.1 hP 5 2 rfl rfl (by omega) (by decide) rfl d_T_tile_56 ?_
                refine lv_iload_n hx hb d_T_tile_57 rfl (lv_at hl 3 rfl) ?_
                refine tl_lald (a := j) hx hb hE.1 hP (10 + 8) 0 (tl_Wt (by omega)) rfl (by omega) (by decide) d_T_tile_58 ?_
                refine lv_goto (tgt := 63) hx hb d_T_tile_59 (by decide) ?_
                exact W.lret hx hb hr (fun t9 ht9 _ => ⟨(T 8 j), rfl, (by unfold tl_tileA; rw [if_neg h1, if_neg h7]; first | (rw [if_pos h13, if_pos h17]; done) | (rw [if_pos h13, if_neg h17, if_pos h23]; done) | (rw [if_neg h13, if_pos h40, if_pos h44, nI_clamp (by omega)]; done) | (rw [if_neg h13, if_pos h40, if_neg h44]; done) | (rw [if_neg h13, if_neg h40]; done) | exact absurd (h13.symm.trans h40) (by decide)), ht9⟩) (fun q h => by cases h) d_T_tile_63
          · -- 23 f
            obtain ⟨a, ha, rfl⟩ := tl_ix (by omega) h17 h23
            refine lv_aload_n hx hb d_T_tile_26 rfl (lv_at hl 0 rfl) ?_
            refine va_get (ci := 0) (v := .ref (ad 1)) (C := R_T) (T := F_T) (N := 5) hx hb hw iw_T hown hE.1 hP 0 rfl rfl 0 (by decide) (hw _ tl_m32) (fun _ h9 => h9) rfl d_T_tile_27 ?_
            refine va_getN (ci := 1) (v := .ref (ad 5)) (C := R_D) (T := F_D) (N := 10) hx hb hw iw_D hown hE.1 hP 1 rfl rfl 1 (by decide) (tl_f1 hE.2) (fun _ h9 => h9) rfl d_T_tile_30 ?_
            refine lv_iload_n hx hb d_T_tile_33 rfl (lv_at hl 2 rfl) ?_
            refine tl_aald (a := a) hx hb hE.1 hP 5 2 rfl rfl (by omega) (by decide) rfl d_T_tile_34 ?_
            refine lv_iload_n hx hb d_T_tile_35 rfl (lv_at hl 3 rfl) ?_
            refine tl_lald (a := j) hx hb hE.1 hP (10 + a) 0 (tl_Wt (by omega)) rfl (by omega) (by decide) d_T_tile_36 ?_
            exact W.lret hx hb hr (fun t9 ht9 _ => ⟨(T a j), rfl, (by unfold tl_tileA; rw [if_neg h1, if_neg h7, if_pos h13, if_neg h17, if_neg h23, nI_clamp (by omega), nI_clamp (by omega)]), ht9⟩) (fun q h => by cases h) d_T_tile_37
    · -- 7 f
      refine lv_lconst (v := 0) hx hb d_T_tile_10 (by decide) ?_
      exact W.lret hx hb hr (fun t9 ht9 _ => ⟨(0), rfl, (by unfold tl_tileA; first | rw [if_pos h1] | rw [if_neg h1, if_pos (Int32.not_lt.mp h7)]), ht9⟩) (fun q h => by cases h) d_T_tile_11

set_option maxHeartbeats 4000000 in
set_option maxRecDepth 100000 in
theorem c_T_entry (l : Launch) (D : va_G) (cJ cI cG cZ : ClassId) (ad : Nat → Nat) (E : Nat → Int64) (nf : Nat) (T : Nat → Nat → Int64) (hn hs : Nat → Int32) (rt : Nat → Int64) (dn : Bool) (wm cr : Int32) (pf : Nat → Int64) (pl : Nat) (O : Nat → Int64) (ol : Nat) (r8 : Nat → Int64) (L : Nat) (sz : Nat → Nat) (Lp : List Int64) (x : Int32) (hI : tl_H nf hn hs L sz pf pl Lp ol) : Met l y_T_entry (k_T_entry :: tl_ws) { frames := 0, cells := 0, slots := 0, locals := 0 } (tl_Pc D cJ cI cG cZ [.ref (ad 0), .int (x)] (fun H => va_P D tl_cl (tl_W cJ cI cG ad E nf T hn hs rt dn wm cr pf pl O ol r8) H)) (vp_Sl (fun r => r = tl_entA E nf x)) 0 0 (fun _ => False) := by
  refine Met.ofW (cc := b_T_entry) (maxL := 2) (ret := (some .long)) (by decide) rfl ?_
  intro p e s m args below meth c s₁ B hml hv
  obtain ⟨rfl, hE, hP⟩ := hv
  have hx := B.exec
  have hb := B.bytes
  have hr := B.returns
  have hw : ∀ w ∈ tl_ws, w.before ([.ref (ad 0), .int (x)] : List Value).toArray s = true := fun w h => atoms_spec (ws := k_T_entry :: tl_ws) B.pre w (List.mem_cons_of_mem _ h)
  have hown : s.vm.findClass R_T = some m.cls := findClass_of_methodNamed B.named
  have hlocks := B.notSynchronized
  have hl := lv_entry ([.ref (ad 0), .int (x)]) (n := 2) (Nat.le_of_ble_eq_true rfl)
  rw [lg_entry_eq]
  generalize (lg_sl ([.ref (ad 0), .int (x)]) ++ List.replicate (2 - (lg_sl ([.ref (ad 0), .int (x)])).length) Slot.unset).toArray = ls at hl ⊢
  have hl : lv_has ls 2 [(0, .ref (ad 0)), (1, .int (x))] := hl
  have hP : va_P D tl_cl (tl_W cJ cI cG ad E nf T hn hs rt dn wm cr pf pl O ol r8) s.heap := hP
  obtain ⟨hnf, hL, hh, hz, hsz, hpl, hpf, hp7, hol⟩ := hI
  have hpub : tl_pub L sz ≤ 64 := Nat.le_trans (tl_pub_le hsz) hnf
  refine lv_iload_n hx hb d_T_entry_0 rfl (lv_at hl 1 rfl) ?_
  refine lv_if_lt (tgt := 27) hx hb d_T_entry_1 (by decide) (fun h1 => ?_) (fun h1 => ?_)
  · -- 1 t
    refine lv_lconst (v := 0) hx hb d_T_entry_27 (by decide) ?_
    exact W.lret hx hb hr (fun t9 ht9 _ => ⟨(0), rfl, (by unfold tl_entA; first | (rw [if_pos h1]; done) | (rw [if_neg h1, if_pos h12]; done) | (rw [if_neg h1, if_neg h12, nI_clamp (by omega)])), ht9⟩) (fun q h => by cases h) d_T_entry_28
  · -- 1 f
    refine lv_iload_n hx hb d_T_entry_4 rfl (lv_at hl 1 rfl) ?_
    refine lv_aload_n hx hb d_T_entry_5 rfl (lv_at hl 0 rfl) ?_
    refine va_get (ci := 0) (v := .ref (ad 1)) (C := R_T) (T := F_T) (N := 5) hx hb hw iw_T hown hE.1 hP 0 rfl rfl 0 (by decide) (hw _ tl_m32) (fun _ h9 => h9) rfl d_T_entry_6 ?_
    refine va_getN (ci := 1) (v := .int (nI (nf))) (C := R_D) (T := F_D) (N := 10) hx hb hw iw_D hown hE.1 hP 1 rfl rfl 6 (by decide) (tl_f4 hE.2) (fun _ h9 => h9) rfl d_T_entry_9 ?_
    refine lv_icmp_ge (tgt := 27) hx hb d_T_entry_12 (by decide) (fun h12 => ?_) (fun h12 => ?_)
    · -- 12 t
      refine lv_lconst (v := 0) hx hb d_T_entry_27 (by decide) ?_
      exact W.lret hx hb hr (fun t9 ht9 _ => ⟨(0), rfl, (by unfold tl_entA; first | (rw [if_pos h1]; done) | (rw [if_neg h1, if_pos h12]; done) | (rw [if_neg h1, if_neg h12, nI_clamp (by omega)])), ht9⟩) (fun q h => by cases h) d_T_entry_28
    · -- 12 f
      obtain ⟨j, hj, rfl⟩ := tl_ix (by omega) h1 h12
      refine lv_aload_n hx hb d_T_entry_15 rfl (lv_at hl 0 rfl) ?_
      refine va_get (ci := 0) (v := .ref (ad 1)) (C := R_T) (T := F_T) (N := 5) hx hb hw iw_T hown hE.1 hP 0 rfl rfl 0 (by decide) (hw _ tl_m32) (fun _ h9 => h9) rfl d_T_entry_16 ?_
      refine va_getN (ci := 1) (v := .ref (ad 4)) (C := R_D) (T := F_D) (N := 10) hx hb hw iw_D hown hE.1 hP 1 rfl rfl 0 (by decide) (tl_f0 hE.2) (fun _ h9 => h9) rfl d_T_entry_19 ?_
      refine lv_iload_n hx hb d_T_entry_22 rfl (lv_at hl 1 rfl) ?_
      refine tl_lald (a := j) hx hb hE.1 hP 4 0 rfl rfl (by omega) (by decide) d_T_entry_23 ?_
      refine lv_goto (tgt := 28) hx hb d_T_entry_24 (by decide) ?_
      exact W.lret hx hb hr (fun t9 ht9 _ => ⟨(E j), rfl, (by unfold tl_entA; first | (rw [if_pos h1]; done) | (rw [if_neg h1, if_pos h12]; done) | (rw [if_neg h1, if_neg h12, nI_clamp (by omega)])), ht9⟩) (fun q h => by cases h) d_T_entry_28

set_option maxHeartbeats 4000000 in
set_option maxRecDepth 100000 in
theorem c_T_find (l : Launch) (D : va_G) (cJ cI cG cZ : ClassId) (ad : Nat → Nat) (E : Nat → Int64) (nf : Nat) (T : Nat → Nat → Int64) (hn hs : Nat → Int32) (rt : Nat → Int64) (dn : Bool) (wm cr : Int32) (pf : Nat → Int64) (pl : Nat) (O : Nat → Int64) (ol : Nat) (r8 : Nat → Int64) (L : Nat) (sz : Nat → Nat) (Lp : List Int64) (x : Int64) (hI : tl_H nf hn hs L sz pf pl Lp ol) : Met l y_T_find (k_T_find :: tl_ws) { frames := 2, cells := 0, slots := 0, locals := 48 } (tl_Pc D cJ cI cG cZ [.ref (ad 0), .long (x)] (fun H => va_P D tl_cl (tl_W cJ cI cG ad E nf T hn hs rt dn wm cr pf pl O ol r8) H)) (vp_Si (fun r => r = tl_findA E dn (tl_pub L sz) x)) 0 0 (fun _ => False) := by
  refine Met.ofW (cc := b_T_find) (maxL := 7) (ret := (some .int)) (by decide) rfl ?_
  intro p e s m args below meth c s₁ B hml hv
  obtain ⟨rfl, hE, hP⟩ := hv
  have hx := B.exec
  have hb := B.bytes
  have hr := B.returns
  have hw : ∀ w ∈ tl_ws, w.before ([.ref (ad 0), .long (x)] : List Value).toArray s = true := fun w h => atoms_spec (ws := k_T_find :: tl_ws) B.pre w (List.mem_cons_of_mem _ h)
  have hown : s.vm.findClass R_T = some m.cls := findClass_of_methodNamed B.named
  have hlocks := B.notSynchronized
  have hl := lv_entry ([.ref (ad 0), .long (x)]) (n := 7) (Nat.le_of_ble_eq_true rfl)
  rw [lg_entry_eq]
  generalize (lg_sl ([.ref (ad 0), .long (x)]) ++ List.replicate (7 - (lg_sl ([.ref (ad 0), .long (x)])).length) Slot.unset).toArray = ls at hl ⊢
  have hl : lv_has ls 7 [(0, .ref (ad 0)), (1, .long (x))] := hl
  have hP : va_P D tl_cl (tl_W cJ cI cG ad E nf T hn hs rt dn wm cr pf pl O ol r8) s.heap := hP
  obtain ⟨hnf, hL, hh, hz, hsz, hpl, hpf, hp7, hol⟩ := hI
  have hpub : tl_pub L sz ≤ 64 := Nat.le_trans (tl_pub_le hsz) hnf
  refine lv_aload_n hx hb d_T_find_0 rfl (lv_at hl 0 rfl) ?_
  refine va_get (ci := 0) (v := .ref (ad 1)) (C := R_T) (T := F_T) (N := 5) hx hb hw iw_T hown hE.1 hP 0 rfl rfl 0 (by decide) (hw _ tl_m32) (fun _ h9 => h9) rfl d_T_find_1 ?_
  refine va_getN (ci := 1) (v := .int (tl_bi (dn))) (C := R_D) (T := F_D) (N := 10) hx hb hw iw_D hown hE.1 hP 1 rfl rfl 9 (by decide) (tl_f7 hE.2) (fun _ h9 => h9) rfl d_T_find_4 ?_
  refine tl_beq (tgt := 13) hx hb d_T_find_7 (by decide) (fun h7 => ?_) (fun h7 => ?_)
  · -- 7 t
    refine lv_lload_n hx hb d_T_find_13 rfl (lv_at hl 1 rfl) ?_
    refine tl_goL (v := (tl_leaf (x))) (va_runSN (As := [.long (x)]) (rest := []) ⟨hx, hb, hml, hown, hw⟩ (c_H_ofLeaf l (x)) (⟨tl_cN hw tl_m64 tl_m4 (tl_n10 hE.2) dd_H_ofLeaf rfl rfl ⟨Nat.le_of_ble_eq_true rfl, Nat.le_of_ble_eq_true rfl⟩, hw _ tl_m63, trivial⟩) (tl_pre0) rfl rfl hl.1 rfl (lv_room (Nat.le_of_ble_eq_true rfl)) d_T_find_14 ⟨Nat.zero_le _, Nat.zero_le _⟩) ?_
    refine lv_lstore_n (lv' := [(3, .long (tl_leaf (x))), (0, .ref (ad 0)), (1, .long (x))]) hx hb d_T_find_17 rfl hl (by decide) rfl (fun ls hl => ?_)
    refine lv_aload_n hx hb d_T_find_18 rfl (lv_at hl 1 rfl) ?_
    refine va_get (ci := 0) (v := .ref (ad 1)) (C := R_T) (T := F_T) (N := 5) hx hb hw iw_T hown hE.1 hP 0 rfl rfl 0 (by decide) (hw _ tl_m32) (fun _ h9 => h9) rfl d_T_find_19 ?_
    refine tl_goI (v := (nI (tl_pub L sz))) (va_runVN (As := []) (rest := []) ⟨hx, hb, hml, hown, hw⟩ (c_D_publishedSize l D cJ cI cG cZ ad E nf T hn hs rt dn wm cr pf pl O ol r8  L sz hL hh hz) (⟨tl_cN hw tl_m51 tl_m2 (tl_n2 hE.2) dd_D_publishedSize rfl rfl ⟨Nat.le_of_ble_eq_true rfl, Nat.le_of_ble_eq_true rfl⟩, hw _ tl_m50, hw _ tl_m355⟩) (tl_preV hE hP (va_recv (q0 := 1) (ci := 1) (q := (R_D, F_D, 10)) hE.1 hP rfl rfl)) rfl rfl hl.1 rfl (lv_room (Nat.le_of_ble_eq_true rfl)) d_T_find_22 ⟨Nat.zero_le _, Nat.zero_le _⟩) ?_
    refine lv_istore (lv' := [(5, .int (nI (tl_pub L sz))), (3, .long (tl_leaf (x))), (0, .ref (ad 0)), (1, .long (x))]) hx hb d_T_find_25 hl (by decide) rfl (fun ls hl => ?_)
    refine lv_iconst (v := (nI (0))) hx hb d_T_find_27 (by decide) ?_
    refine lv_istore (lv' := [(6, .int (nI (0))), (5, .int (nI (tl_pub L sz))), (3, .long (tl_leaf (x))), (0, .ref (ad 0)), (1, .long (x))]) hx hb d_T_find_28 hl (by decide) rfl (fun ls hl => ?_)
    refine tl_loopR (fun n30 ls => ∃ (i : Nat), lv_has ls 7 [(6, .int (nI (i))), (5, .int (nI (tl_pub L sz))), (3, .long (tl_leaf (x))), (0, .ref (ad 0))] ∧ (i ≤ tl_pub L sz) ∧ (n30 = tl_pub L sz - i) ∧ (tl_seek E (tl_leaf x) (tl_pub L sz - i) i = tl_seek E (tl_leaf x) (tl_pub L sz) 0)) (fun n30 ls hI ih30 => ?_) (tl_pub L sz) _ ⟨0, lv_sub hl [0, 1, 2, 3] rfl, by omega, by omega, rfl⟩
    obtain ⟨i, hl, hi, hm, hq⟩ := hI
    refine lv_iload hx hb d_T_find_30 (lv_at hl 0 rfl) ?_
    refine lv_iload hx hb d_T_find_32 (lv_at hl 1 rfl) ?_
    refine tl_cge (tgt := 64) (by omega) (by omega) hx hb d_T_find_34 (by decide) (fun h34 => ?_) (fun h34 => ?_)
    · -- 34 t
      refine lv_iconst (v := (-1)) hx hb d_T_find_64 (by decide) ?_
      exact W.iret hx hb hr (fun t9 ht9 _ => ⟨(-1), rfl, (by unfold tl_findA; rw [h7, if_neg (by decide), ← hq, show tl_pub L sz - i = 0 by omega]; rfl), ht9⟩) (fun q h => by cases h) d_T_find_65
    · -- 34 f
      refine lv_aload_n hx hb d_T_find_37 rfl (lv_at hl 3 rfl) ?_
      refine va_get (ci := 0) (v := .ref (ad 1)) (C := R_T) (T := F_T) (N := 5) hx hb hw iw_T hown hE.1 hP 0 rfl rfl 0 (by decide) (hw _ tl_m32) (fun _ h9 => h9) rfl d_T_find_38 ?_
      refine va_getN (ci := 1) (v := .ref (ad 4)) (C := R_D) (T := F_D) (N := 10) hx hb hw iw_D hown hE.1 hP 1 rfl rfl 0 (by decide) (tl_f0 hE.2) (fun _ h9 => h9) rfl d_T_find_41 ?_
      refine lv_iload hx hb d_T_find_44 (lv_at hl 0 rfl) ?_
      refine tl_lald (a := i) hx hb hE.1 hP 4 0 rfl rfl (by omega) (by decide) d_T_find_46 ?_
      refine tl_goL (v := (tl_leaf (E i))) (va_runSN (As := [.long (E i)]) (rest := []) ⟨hx, hb, hml, hown, hw⟩ (c_H_ofLeaf l (E i)) (⟨tl_cN hw tl_m64 tl_m4 (tl_n10 hE.2) dd_H_ofLeaf rfl rfl ⟨Nat.le_of_ble_eq_true rfl, Nat.le_of_ble_eq_true rfl⟩, hw _ tl_m63, trivial⟩) (tl_pre0) rfl rfl hl.1 rfl (lv_room (Nat.le_of_ble_eq_true rfl)) d_T_find_47 ⟨Nat.zero_le _, Nat.zero_le _⟩) ?_
      refine lv_lload_n hx hb d_T_find_50 rfl (lv_at hl 2 rfl) ?_
      refine tl_lne (tgt := 58) hx hb d_T_find_51 d_T_find_52 (by decide) (fun h52 => ?_) (fun h52 => ?_)
      · -- 52 t
        refine lv_iinc (k := 0) (v := (nI (i + 1))) (lv' := [(6, .int (nI (i + 1))), (5, .int (nI (tl_pub L sz))), (3, .long (tl_leaf (x))), (0, .ref (ad 0))]) hx hb d_T_find_58 hl rfl (by rw [lit1]; exact (nI_succ _).symm) (by decide) rfl (fun ls hl => ?_)
        refine lv_goto (tgt := 30) hx hb d_T_find_61 (by decide) ?_
        exact ih30 (n30 - 1) _ (by omega) ⟨i + 1, lv_sub hl [0, 1, 2, 3] rfl, by omega, by omega, (by rw [← hq, show tl_pub L sz - i = (tl_pub L sz - (i + 1)) + 1 by omega, tl_seek_go h52])⟩
      · -- 52 f
        refine lv_iload hx hb d_T_find_55 (lv_at hl 0 rfl) ?_
        exact W.iret hx hb hr (fun t9 ht9 _ => ⟨(nI (i)), rfl, (by unfold tl_findA; rw [h7, if_neg (by decide), ← hq, show tl_pub L sz - i = (tl_pub L sz - (i + 1)) + 1 by omega, tl_seek_is h52]), ht9⟩) (fun q h => by cases h) d_T_find_57
  · -- 7 f
    refine lv_bipush (v := (-2)) hx hb d_T_find_10 (by decide) ?_
    exact W.iret hx hb hr (fun t9 ht9 _ => ⟨(-2), rfl, (by unfold tl_findA; rw [h7]; rfl), ht9⟩) (fun q h => by cases h) d_T_find_12

set_option maxHeartbeats 4000000 in
set_option maxRecDepth 100000 in
theorem c_T_rootOf (l : Launch) (D : va_G) (cJ cI cG cZ : ClassId) (ad : Nat → Nat) (E : Nat → Int64) (nf : Nat) (T : Nat → Nat → Int64) (hn hs : Nat → Int32) (rt : Nat → Int64) (dn : Bool) (wm cr : Int32) (pf : Nat → Int64) (pl : Nat) (O : Nat → Int64) (ol : Nat) (r8 : Nat → Int64) (L : Nat) (sz : Nat → Nat) (Lp : List Int64) (x : Int32) (hI : tl_H nf hn hs L sz pf pl Lp ol) : Met l y_T_rootOf (k_T_rootOf :: tl_ws) { frames := 9, cells := 0, slots := 0, locals := 211 } (tl_Pc D cJ cI cG cZ [.ref (ad 0), .int (x)] (fun H => va_P D tl_cl (tl_W cJ cI cG ad E nf T hn hs rt dn wm cr pf pl O ol r8) H)) (vp_Sl (fun r => r = tl_rofA E nf x)) 0 0 (fun _ => False) := by
  refine Met.ofW (cc := b_T_rootOf) (maxL := 2) (ret := (some .long)) (by decide) rfl ?_
  intro p e s m args below meth c s₁ B hml hv
  obtain ⟨rfl, hE, hP⟩ := hv
  have hx := B.exec
  have hb := B.bytes
  have hr := B.returns
  have hw : ∀ w ∈ tl_ws, w.before ([.ref (ad 0), .int (x)] : List Value).toArray s = true := fun w h => atoms_spec (ws := k_T_rootOf :: tl_ws) B.pre w (List.mem_cons_of_mem _ h)
  have hown : s.vm.findClass R_T = some m.cls := findClass_of_methodNamed B.named
  have hlocks := B.notSynchronized
  have hl := lv_entry ([.ref (ad 0), .int (x)]) (n := 2) (Nat.le_of_ble_eq_true rfl)
  rw [lg_entry_eq]
  generalize (lg_sl ([.ref (ad 0), .int (x)]) ++ List.replicate (2 - (lg_sl ([.ref (ad 0), .int (x)])).length) Slot.unset).toArray = ls at hl ⊢
  have hl : lv_has ls 2 [(0, .ref (ad 0)), (1, .int (x))] := hl
  have hP : va_P D tl_cl (tl_W cJ cI cG ad E nf T hn hs rt dn wm cr pf pl O ol r8) s.heap := hP
  obtain ⟨hnf, hL, hh, hz, hsz, hpl, hpf, hp7, hol⟩ := hI
  have hpub : tl_pub L sz ≤ 64 := Nat.le_trans (tl_pub_le hsz) hnf
  refine lv_iload_n hx hb d_T_rootOf_0 rfl (lv_at hl 1 rfl) ?_
  refine lv_if_lt (tgt := 30) hx hb d_T_rootOf_1 (by decide) (fun h1 => ?_) (fun h1 => ?_)
  · -- 1 t
    refine lv_lconst (v := 0) hx hb d_T_rootOf_30 (by decide) ?_
    exact W.lret hx hb hr (fun t9 ht9 _ => ⟨(0), rfl, (by unfold tl_rofA; first | (rw [if_pos h1]; done) | (rw [if_neg h1, if_pos h12]; done) | (rw [if_neg h1, if_neg h12, nI_clamp (by omega)])), ht9⟩) (fun q h => by cases h) d_T_rootOf_31
  · -- 1 f
    refine lv_iload_n hx hb d_T_rootOf_4 rfl (lv_at hl 1 rfl) ?_
    refine lv_aload_n hx hb d_T_rootOf_5 rfl (lv_at hl 0 rfl) ?_
    refine va_get (ci := 0) (v := .ref (ad 1)) (C := R_T) (T := F_T) (N := 5) hx hb hw iw_T hown hE.1 hP 0 rfl rfl 0 (by decide) (hw _ tl_m32) (fun _ h9 => h9) rfl d_T_rootOf_6 ?_
    refine va_getN (ci := 1) (v := .int (nI (nf))) (C := R_D) (T := F_D) (N := 10) hx hb hw iw_D hown hE.1 hP 1 rfl rfl 6 (by decide) (tl_f4 hE.2) (fun _ h9 => h9) rfl d_T_rootOf_9 ?_
    refine lv_icmp_gt (tgt := 30) hx hb d_T_rootOf_12 (by decide) (fun h12 => ?_) (fun h12 => ?_)
    · -- 12 t
      refine lv_lconst (v := 0) hx hb d_T_rootOf_30 (by decide) ?_
      exact W.lret hx hb hr (fun t9 ht9 _ => ⟨(0), rfl, (by unfold tl_rofA; first | (rw [if_pos h1]; done) | (rw [if_neg h1, if_pos h12]; done) | (rw [if_neg h1, if_neg h12, nI_clamp (by omega)])), ht9⟩) (fun q h => by cases h) d_T_rootOf_31
    · -- 12 f
      obtain ⟨j, hj, rfl⟩ := tl_ixle (by omega) h1 h12
      refine lv_aload_n hx hb d_T_rootOf_15 rfl (lv_at hl 0 rfl) ?_
      refine va_get (ci := 0) (v := .ref (ad 1)) (C := R_T) (T := F_T) (N := 5) hx hb hw iw_T hown hE.1 hP 0 rfl rfl 0 (by decide) (hw _ tl_m32) (fun _ h9 => h9) rfl d_T_rootOf_16 ?_
      refine va_getN (ci := 1) (v := .ref (ad 4)) (C := R_D) (T := F_D) (N := 10) hx hb hw iw_D hown hE.1 hP 1 rfl rfl 0 (by decide) (tl_f0 hE.2) (fun _ h9 => h9) rfl d_T_rootOf_19 ?_
      refine lv_iconst (v := (nI (0))) hx hb d_T_rootOf_22 (by decide) ?_
      refine lv_iload_n hx hb d_T_rootOf_23 rfl (lv_at hl 1 rfl) ?_
      refine tl_goL (v := (tl_root E 0 j)) (va_runSN (As := [.ref (ad 4), .int (nI (0)), .int (nI (j))]) (rest := []) ⟨hx, hb, hml, hown, hw⟩ (c_H_ofRow l D cJ cI cG cZ (ad 4) E 6 (by omega) 0 j (by omega) (by omega)) (⟨tl_cN hw tl_m75 tl_m4 (tl_n7 hE.2) dd_H_ofRow rfl rfl ⟨Nat.le_of_ble_eq_true rfl, Nat.le_of_ble_eq_true rfl⟩, hw _ tl_m74, trivial⟩) (tl_preS hE (hP.sub [4] rfl)) rfl rfl hl.1 rfl (lv_room (Nat.le_of_ble_eq_true rfl)) d_T_rootOf_24 ⟨Nat.zero_le _, Nat.zero_le _⟩) ?_
      refine lv_goto (tgt := 31) hx hb d_T_rootOf_27 (by decide) ?_
      exact W.lret hx hb hr (fun t9 ht9 _ => ⟨(tl_root E 0 j), rfl, (by unfold tl_rofA; first | (rw [if_pos h1]; done) | (rw [if_neg h1, if_pos h12]; done) | (rw [if_neg h1, if_neg h12, nI_clamp (by omega)])), ht9⟩) (fun q h => by cases h) d_T_rootOf_31

set_option maxHeartbeats 4000000 in
set_option maxRecDepth 100000 in
theorem c_T_proof (l : Launch) (D : va_G) (cJ cI cG cZ : ClassId) (ad : Nat → Nat) (E : Nat → Int64) (nf : Nat) (T : Nat → Nat → Int64) (hn hs : Nat → Int32) (rt : Nat → Int64) (dn : Bool) (wm cr : Int32) (pf : Nat → Int64) (pl : Nat) (O : Nat → Int64) (ol : Nat) (r8 : Nat → Int64) (L : Nat) (sz : Nat → Nat) (Lp : List Int64) (x : Int32) (hI : tl_H nf hn hs L sz pf pl Lp ol) : Met l y_T_proof (k_T_proof :: tl_ws) { frames := 0, cells := 0, slots := 0, locals := 0 } (tl_Pc D cJ cI cG cZ [.ref (ad 0), .int (x)] (fun H => va_P D tl_cl (tl_W cJ cI cG ad E nf T hn hs rt dn wm cr pf pl O ol r8) H)) (vp_Sl (fun r => r = tl_prfA Lp x)) 0 0 (fun _ => False) := by
  refine Met.ofW (cc := b_T_proof) (maxL := 2) (ret := (some .long)) (by decide) rfl ?_
  intro p e s m args below meth c s₁ B hml hv
  obtain ⟨rfl, hE, hP⟩ := hv
  have hx := B.exec
  have hb := B.bytes
  have hr := B.returns
  have hw : ∀ w ∈ tl_ws, w.before ([.ref (ad 0), .int (x)] : List Value).toArray s = true := fun w h => atoms_spec (ws := k_T_proof :: tl_ws) B.pre w (List.mem_cons_of_mem _ h)
  have hown : s.vm.findClass R_T = some m.cls := findClass_of_methodNamed B.named
  have hlocks := B.notSynchronized
  have hl := lv_entry ([.ref (ad 0), .int (x)]) (n := 2) (Nat.le_of_ble_eq_true rfl)
  rw [lg_entry_eq]
  generalize (lg_sl ([.ref (ad 0), .int (x)]) ++ List.replicate (2 - (lg_sl ([.ref (ad 0), .int (x)])).length) Slot.unset).toArray = ls at hl ⊢
  have hl : lv_has ls 2 [(0, .ref (ad 0)), (1, .int (x))] := hl
  have hP : va_P D tl_cl (tl_W cJ cI cG ad E nf T hn hs rt dn wm cr pf pl O ol r8) s.heap := hP
  obtain ⟨hnf, hL, hh, hz, hsz, hpl, hpf, hp7, hol⟩ := hI
  have hpub : tl_pub L sz ≤ 64 := Nat.le_trans (tl_pub_le hsz) hnf
  refine lv_iload_n hx hb d_T_proof_0 rfl (lv_at hl 1 rfl) ?_
  refine lv_if_lt (tgt := 21) hx hb d_T_proof_1 (by decide) (fun h1 => ?_) (fun h1 => ?_)
  · -- 1 t
    refine lv_lconst (v := 0) hx hb d_T_proof_21 (by decide) ?_
    exact W.lret hx hb hr (fun t9 ht9 _ => ⟨(0), rfl, (by unfold tl_prfA; rw [← hpl]; first | (rw [if_pos h1]; done) | (rw [if_neg h1, if_pos h9]; done) | (rw [if_neg h1, if_neg h9, nI_clamp (by omega)])), ht9⟩) (fun q h => by cases h) d_T_proof_22
  · -- 1 f
    refine lv_iload_n hx hb d_T_proof_4 rfl (lv_at hl 1 rfl) ?_
    refine lv_aload_n hx hb d_T_proof_5 rfl (lv_at hl 0 rfl) ?_
    refine va_get (ci := 0) (v := .int (nI (pl))) (C := R_T) (T := F_T) (N := 5) hx hb hw iw_T hown hE.1 hP 0 rfl rfl 2 (by decide) (hw _ tl_m34) (fun _ h9 => h9) rfl d_T_proof_6 ?_
    refine lv_icmp_ge (tgt := 21) hx hb d_T_proof_9 (by decide) (fun h9 => ?_) (fun h9 => ?_)
    · -- 9 t
      refine lv_lconst (v := 0) hx hb d_T_proof_21 (by decide) ?_
      exact W.lret hx hb hr (fun t9 ht9 _ => ⟨(0), rfl, (by unfold tl_prfA; rw [← hpl]; first | (rw [if_pos h1]; done) | (rw [if_neg h1, if_pos h9]; done) | (rw [if_neg h1, if_neg h9, nI_clamp (by omega)])), ht9⟩) (fun q h => by cases h) d_T_proof_22
    · -- 9 f
      obtain ⟨j, hj, rfl⟩ := tl_ix (by omega) h1 h9
      refine lv_aload_n hx hb d_T_proof_12 rfl (lv_at hl 0 rfl) ?_
      refine va_get (ci := 0) (v := .ref (ad 2)) (C := R_T) (T := F_T) (N := 5) hx hb hw iw_T hown hE.1 hP 0 rfl rfl 1 (by decide) (hw _ tl_m33) (fun _ h9 => h9) rfl d_T_proof_13 ?_
      refine lv_iload_n hx hb d_T_proof_16 rfl (lv_at hl 1 rfl) ?_
      refine tl_lald (a := j) hx hb hE.1 hP 2 0 rfl rfl (by omega) (by decide) d_T_proof_17 ?_
      refine lv_topl (nm_r (e' := (Lp.getD j 0)) (hpf j hj) ?_)
      refine lv_goto (tgt := 22) hx hb d_T_proof_18 (by decide) ?_
      exact W.lret hx hb hr (fun t9 ht9 _ => ⟨(Lp.getD j 0), rfl, (by unfold tl_prfA; rw [← hpl]; first | (rw [if_pos h1]; done) | (rw [if_neg h1, if_pos h9]; done) | (rw [if_neg h1, if_neg h9, nI_clamp (by omega)])), ht9⟩) (fun q h => by cases h) d_T_proof_22
