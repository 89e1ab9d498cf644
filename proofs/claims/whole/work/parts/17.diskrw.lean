set_option maxHeartbeats 4000000 in
set_option maxRecDepth 100000 in
theorem c_D_beginWrite (l : Launch) (D : va_G) (cJ cI cG cZ : ClassId) (ad : Nat → Nat) (E : Nat → Int64) (nf : Nat) (T : Nat → Nat → Int64) (hn hs : Nat → Int32) (rt : Nat → Int64) (dn : Bool) (wm cr : Int32) (pf : Nat → Int64) (pl : Nat) (O : Nat → Int64) (ol : Nat) (r8 : Nat → Int64)  (hap : tl_ap ad 19) : Met l y_D_beginWrite (k_D_beginWrite :: tl_ws) { frames := 0, cells := 0, slots := 0, locals := 0 } (tl_Pc D cJ cI cG cZ [.ref (ad 1)] (fun H => va_P D tl_cl (tl_W cJ cI cG ad E nf T hn hs rt dn wm cr pf pl O ol r8) H)) (tl_Qi (tl_bi (tl_wB cr)) (fun H => va_P D tl_cl (tl_W cJ cI cG ad E nf T hn hs rt (tl_wD cr dn) (tl_wW cr wm) (tl_wC cr) pf pl O ol r8) H) (tl_in ad 19)) 0 0 (tl_in ad 19) := by
  refine Met.ofW (cc := b_D_beginWrite) (maxL := 1) (ret := (some .boolean)) (by decide) rfl ?_
  intro p e s m args below meth c s₁ B hml hv
  obtain ⟨rfl, hE, hP⟩ := hv
  have hx := B.exec
  have hb := B.bytes
  have hr := B.returns
  have hw : ∀ w ∈ tl_ws, w.before ([.ref (ad 1)] : List Value).toArray s = true := fun w h => atoms_spec (ws := k_D_beginWrite :: tl_ws) B.pre w (List.mem_cons_of_mem _ h)
  have hown : s.vm.findClass R_D = some m.cls := findClass_of_methodNamed B.named
  have hlocks := B.notSynchronized
  have hl := lv_entry ([.ref (ad 1)]) (n := 1) (Nat.le_of_ble_eq_true rfl)
  rw [lg_entry_eq]
  generalize (lg_sl ([.ref (ad 1)]) ++ List.replicate (1 - (lg_sl ([.ref (ad 1)])).length) Slot.unset).toArray = ls at hl ⊢
  have hl : lv_has ls 1 [(0, .ref (ad 1))] := hl
  have hP : va_P D tl_cl (tl_W cJ cI cG ad E nf T hn hs rt dn wm cr pf pl O ol r8) s.heap := hP
  have hS : va_S (tl_in ad 19) s.heap s.heap [] := va_S.rf
  refine lv_aload_n hx hb d_D_beginWrite_0 rfl (lv_at hl 0 rfl) ?_
  refine va_get (ci := 1) (v := .int (cr)) (C := R_D) (T := F_D) (N := 10) hx hb hw iw_D hown hE.1 hP 1 rfl rfl 8 (by decide) (hw _ tl_m28) (fun _ h9 => h9) rfl d_D_beginWrite_1 ?_
  refine lv_if_ne (tgt := 19) hx hb d_D_beginWrite_4 (by decide) (fun h4 => ?_) (fun h4 => ?_)
  · -- 4 t
    refine lv_aload_n hx hb d_D_beginWrite_19 rfl (lv_at hl 0 rfl) ?_
    refine va_get (ci := 1) (v := .int (cr)) (C := R_D) (T := F_D) (N := 10) hx hb hw iw_D hown hE.1 hP 1 rfl rfl 8 (by decide) (hw _ tl_m28) (fun _ h9 => h9) rfl d_D_beginWrite_20 ?_
    refine lv_if_le (tgt := 36) hx hb d_D_beginWrite_23 (by decide) (fun h23 => ?_) (fun h23 => ?_)
    · -- 23 t
      refine lv_aload_n hx hb d_D_beginWrite_36 rfl (lv_at hl 0 rfl) ?_
      refine lv_dup hx hb d_D_beginWrite_37 rfl ?_
      refine va_get (ci := 1) (v := .int (wm)) (C := R_D) (T := F_D) (N := 10) hx hb hw iw_D hown hE.1 hP 1 rfl rfl 7 (by decide) (hw _ tl_m27) (fun _ h9 => h9) rfl d_D_beginWrite_38 ?_
      refine lv_iconst (v := (nI (1))) hx hb d_D_beginWrite_41 (by decide) ?_
      refine lv_iadd hx hb d_D_beginWrite_42 ?_
      refine lv_topi (nm_r (e' := (wm + 1)) (rfl) ?_)
      refine va_put (ci := 1) (v := .int (wm + 1)) (ty := .int) (C := R_D) (T := F_D) (N := 10) hx hb hw iw_D ft_D ft_D_ok n_D hown hE.1 hP (tl_DW hap) hS 1 rfl rfl 7 (by decide) (hw _ tl_m27) (fun _ h9 => h9) rfl (by decide +kernel) rfl rfl (Nat.le_of_ble_eq_true rfl) d_D_beginWrite_43 (fun H locs hP _ hS => ?_)
      have hP : va_P D tl_cl (tl_W cJ cI cG ad E nf T hn hs rt dn (wm + 1) cr pf pl O ol r8) H := hP
      refine lv_iconst (v := (nI (1))) hx hb d_D_beginWrite_46 (by decide) ?_
      refine lv_topi (nm_r (e' := tl_bi (tl_wB cr)) (by rw [tl_wB1 h4]; rfl) ?_)
      exact W.zret hx hb hr (tl_bi_nar _) (fun t9 ht9 _ => tl_endI hS (by show va_P D tl_cl (tl_W cJ cI cG ad E nf T hn hs rt (tl_wD cr dn) (tl_wW cr wm) (tl_wC cr) pf pl O ol r8) _; rw [tl_wDn h4, tl_wWn h4, tl_wCn h4]; first | (rw [tl_dec1 h23]; exact hP) | (rw [tl_dec2 h23]; exact hP)) ht9) hS.2.2 d_D_beginWrite_47
    · -- 23 f
      refine lv_aload_n hx hb d_D_beginWrite_26 rfl (lv_at hl 0 rfl) ?_
      refine lv_dup hx hb d_D_beginWrite_27 rfl ?_
      refine va_get (ci := 1) (v := .int (cr)) (C := R_D) (T := F_D) (N := 10) hx hb hw iw_D hown hE.1 hP 1 rfl rfl 8 (by decide) (hw _ tl_m28) (fun _ h9 => h9) rfl d_D_beginWrite_28 ?_
      refine lv_iconst (v := (nI (1))) hx hb d_D_beginWrite_31 (by decide) ?_
      refine lv_isub hx hb d_D_beginWrite_32 ?_
      refine lv_topi (nm_r (e' := (cr - 1)) (rfl) ?_)
      refine va_put (ci := 1) (v := .int (cr - 1)) (ty := .int) (C := R_D) (T := F_D) (N := 10) hx hb hw iw_D ft_D ft_D_ok n_D hown hE.1 hP (tl_DW hap) hS 1 rfl rfl 8 (by decide) (hw _ tl_m28) (fun _ h9 => h9) rfl (by decide +kernel) rfl rfl (Nat.le_of_ble_eq_true rfl) d_D_beginWrite_33 (fun H locs hP _ hS => ?_)
      have hP : va_P D tl_cl (tl_W cJ cI cG ad E nf T hn hs rt dn wm (cr - 1) pf pl O ol r8) H := hP
      refine lv_aload_n hx hb d_D_beginWrite_36 rfl (lv_at hl 0 rfl) ?_
      refine lv_dup hx hb d_D_beginWrite_37 rfl ?_
      refine va_get (ci := 1) (v := .int (wm)) (C := R_D) (T := F_D) (N := 10) hx hb hw iw_D hown hE.1 hP 1 rfl rfl 7 (by decide) (hw _ tl_m27) (fun _ h9 => h9) rfl d_D_beginWrite_38 ?_
      refine lv_iconst (v := (nI (1))) hx hb d_D_beginWrite_41 (by decide) ?_
      refine lv_iadd hx hb d_D_beginWrite_42 ?_
      refine lv_topi (nm_r (e' := (wm + 1)) (rfl) ?_)
      refine va_put (ci := 1) (v := .int (wm + 1)) (ty := .int) (C := R_D) (T := F_D) (N := 10) hx hb hw iw_D ft_D ft_D_ok n_D hown hE.1 hP (tl_DW hap) hS 1 rfl rfl 7 (by decide) (hw _ tl_m27) (fun _ h9 => h9) rfl (by decide +kernel) rfl rfl (Nat.le_of_ble_eq_true rfl) d_D_beginWrite_43 (fun H locs hP _ hS => ?_)
      have hP : va_P D tl_cl (tl_W cJ cI cG ad E nf T hn hs rt dn (wm + 1) (cr - 1) pf pl O ol r8) H := hP
      refine lv_iconst (v := (nI (1))) hx hb d_D_beginWrite_46 (by decide) ?_
      refine lv_topi (nm_r (e' := tl_bi (tl_wB cr)) (by rw [tl_wB1 h4]; rfl) ?_)
      exact W.zret hx hb hr (tl_bi_nar _) (fun t9 ht9 _ => tl_endI hS (by show va_P D tl_cl (tl_W cJ cI cG ad E nf T hn hs rt (tl_wD cr dn) (tl_wW cr wm) (tl_wC cr) pf pl O ol r8) _; rw [tl_wDn h4, tl_wWn h4, tl_wCn h4]; first | (rw [tl_dec1 h23]; exact hP) | (rw [tl_dec2 h23]; exact hP)) ht9) hS.2.2 d_D_beginWrite_47
  · -- 4 f
    refine lv_aload_n hx hb d_D_beginWrite_7 rfl (lv_at hl 0 rfl) ?_
    refine lv_iconst (v := (-1)) hx hb d_D_beginWrite_8 (by decide) ?_
    refine va_put (ci := 1) (v := .int (-1)) (ty := .int) (C := R_D) (T := F_D) (N := 10) hx hb hw iw_D ft_D ft_D_ok n_D hown hE.1 hP (tl_DW hap) hS 1 rfl rfl 8 (by decide) (hw _ tl_m28) (fun _ h9 => h9) rfl (by decide +kernel) rfl rfl (Nat.le_of_ble_eq_true rfl) d_D_beginWrite_9 (fun H locs hP _ hS => ?_)
    have hP : va_P D tl_cl (tl_W cJ cI cG ad E nf T hn hs rt dn wm (-1) pf pl O ol r8) H := hP
    refine lv_aload_n hx hb d_D_beginWrite_12 rfl (lv_at hl 0 rfl) ?_
    refine lv_iconst (v := (nI (1))) hx hb d_D_beginWrite_13 (by decide) ?_
    refine va_put (ci := 1) (v := .int (tl_bi (true))) (ty := .boolean) (C := R_D) (T := F_D) (N := 10) hx hb hw iw_D ft_D ft_D_ok n_D hown hE.1 hP (tl_DW hap) hS 1 rfl rfl 9 (by decide) (hw _ tl_m29) (fun _ h9 => h9) rfl (by decide +kernel) (tl_bi_nar _) (tl_bi_fit _) (Nat.le_of_ble_eq_true rfl) d_D_beginWrite_14 (fun H locs hP _ hS => ?_)
    have hP : va_P D tl_cl (tl_W cJ cI cG ad E nf T hn hs rt true wm (-1) pf pl O ol r8) H := hP
    refine lv_iconst (v := (nI (0))) hx hb d_D_beginWrite_17 (by decide) ?_
    refine lv_topi (nm_r (e' := tl_bi (tl_wB cr)) (by rw [tl_wB0 h4]; rfl) ?_)
    exact W.zret hx hb hr (tl_bi_nar _) (fun t9 ht9 _ => tl_endI hS (by show va_P D tl_cl (tl_W cJ cI cG ad E nf T hn hs rt (tl_wD cr dn) (tl_wW cr wm) (tl_wC cr) pf pl O ol r8) _; rw [tl_wD0 h4, tl_wW0 h4, tl_wC0 h4]; exact hP) ht9) hS.2.2 d_D_beginWrite_18

set_option maxHeartbeats 4000000 in
set_option maxRecDepth 100000 in
theorem c_D_writeEntry (l : Launch) (D : va_G) (cJ cI cG cZ : ClassId) (ad : Nat → Nat) (E : Nat → Int64) (nf : Nat) (T : Nat → Nat → Int64) (hn hs : Nat → Int32) (rt : Nat → Int64) (dn : Bool) (wm cr : Int32) (pf : Nat → Int64) (pl : Nat) (O : Nat → Int64) (ol : Nat) (r8 : Nat → Int64) (x : Int64) (hap : tl_ap ad 19) (hnf : nf < 64) : Met l y_D_writeEntry (k_D_writeEntry :: tl_ws) { frames := 1, cells := 0, slots := 0, locals := 20 } (tl_Pc D cJ cI cG cZ [.ref (ad 1), .int (nI (nf)), .long (x)] (fun H => va_P D tl_cl (tl_W cJ cI cG ad E nf T hn hs rt dn wm cr pf pl O ol r8) H)) (tl_Qi (tl_bi (tl_wB cr)) (fun H => va_P D tl_cl (tl_W cJ cI cG ad (if cr = 0 then E else vp_updL E nf x) (if cr = 0 then nf else nf + 1) T hn hs rt (tl_wD cr dn) (tl_wW cr wm) (tl_wC cr) pf pl O ol r8) H) (tl_in ad 19)) 0 0 (tl_in ad 19) := by
  refine Met.ofW (cc := b_D_writeEntry) (maxL := 4) (ret := (some .boolean)) (by decide) rfl ?_
  intro p e s m args below meth c s₁ B hml hv
  obtain ⟨rfl, hE, hP⟩ := hv
  have hx := B.exec
  have hb := B.bytes
  have hr := B.returns
  have hw : ∀ w ∈ tl_ws, w.before ([.ref (ad 1), .int (nI (nf)), .long (x)] : List Value).toArray s = true := fun w h => atoms_spec (ws := k_D_writeEntry :: tl_ws) B.pre w (List.mem_cons_of_mem _ h)
  have hown : s.vm.findClass R_D = some m.cls := findClass_of_methodNamed B.named
  have hlocks := B.notSynchronized
  have hl := lv_entry ([.ref (ad 1), .int (nI (nf)), .long (x)]) (n := 4) (Nat.le_of_ble_eq_true rfl)
  rw [lg_entry_eq]
  generalize (lg_sl ([.ref (ad 1), .int (nI (nf)), .long (x)]) ++ List.replicate (4 - (lg_sl ([.ref (ad 1), .int (nI (nf)), .long (x)])).length) Slot.unset).toArray = ls at hl ⊢
  have hl : lv_has ls 4 [(0, .ref (ad 1)), (1, .int (nI (nf))), (2, .long (x))] := hl
  have hP : va_P D tl_cl (tl_W cJ cI cG ad E nf T hn hs rt dn wm cr pf pl O ol r8) s.heap := hP
  have hS : va_S (tl_in ad 19) s.heap s.heap [] := va_S.rf
  refine lv_aload_n hx hb d_D_writeEntry_0 rfl (lv_at hl 0 rfl) ?_
  refine tl_doI (v := (tl_bi (tl_wB cr))) (va_runV (As := []) (rest := []) ⟨hx, hb, hml, hown, hw⟩ (c_D_beginWrite l D cJ cI cG cZ ad E nf T hn hs rt dn wm cr pf pl O ol r8  hap) (⟨tl_cB hw tl_m45 tl_m2 tl_m43 dd_D_beginWrite rfl rfl ⟨Nat.le_of_ble_eq_true rfl, Nat.le_of_ble_eq_true rfl⟩, hw _ tl_m44, hw _ tl_m354⟩) (tl_preV hE hP (va_recv (q0 := 1) (ci := 1) (q := (R_D, F_D, 10)) hE.1 hP rfl rfl)) rfl rfl hl.1 rfl (lv_room (Nat.le_of_ble_eq_true rfl)) d_D_writeEntry_1 ⟨Nat.zero_le _, Nat.zero_le _⟩) hS (fun _ h => h) (fun H locs hP hS _ => ?_)
  have hP : va_P D tl_cl (tl_W cJ cI cG ad E nf T hn hs rt (tl_wD cr dn) (tl_wW cr wm) (tl_wC cr) pf pl O ol r8) H := hP
  refine tl_bne (tgt := 9) hx hb d_D_writeEntry_4 (by decide) (fun h4 => ?_) (fun h4 => ?_)
  · -- 4 t
    refine lv_aload_n hx hb d_D_writeEntry_9 rfl (lv_at hl 0 rfl) ?_
    refine va_get (ci := 1) (v := .ref (ad 4)) (C := R_D) (T := F_D) (N := 10) hx hb hw iw_D hown hE.1 hP 1 rfl rfl 0 (by decide) (hw _ tl_m20) (fun _ h9 => h9) rfl d_D_writeEntry_10 ?_
    refine lv_iload_n hx hb d_D_writeEntry_13 rfl (lv_at hl 1 rfl) ?_
    refine lv_lload_n hx hb d_D_writeEntry_14 rfl (lv_at hl 2 rfl) ?_
    refine tl_last (a := nf) hx hb hE.1 hP (tl_DW hap) hS 4 0 rfl rfl (by omega) (by decide) d_D_writeEntry_15 (fun H locs hP hS => ?_)
    have hP : va_P D tl_cl (tl_W cJ cI cG ad (vp_updL E nf (x)) nf T hn hs rt (tl_wD cr dn) (tl_wW cr wm) (tl_wC cr) pf pl O ol r8) H := hP
    refine lv_aload_n hx hb d_D_writeEntry_16 rfl (lv_at hl 0 rfl) ?_
    refine lv_iload_n hx hb d_D_writeEntry_17 rfl (lv_at hl 1 rfl) ?_
    refine lv_iconst (v := (nI (1))) hx hb d_D_writeEntry_18 (by decide) ?_
    refine lv_iadd hx hb d_D_writeEntry_19 ?_
    refine lv_topi (nm_r (e' := (nI (nf + 1))) (nI_add _ _) ?_)
    refine va_put (ci := 1) (v := .int (nI (nf + 1))) (ty := .int) (C := R_D) (T := F_D) (N := 10) hx hb hw iw_D ft_D ft_D_ok n_D hown hE.1 hP (tl_DW hap) hS 1 rfl rfl 6 (by decide) (hw _ tl_m26) (fun _ h9 => h9) rfl (by decide +kernel) rfl rfl (Nat.le_of_ble_eq_true rfl) d_D_writeEntry_20 (fun H locs hP _ hS => ?_)
    have hP : va_P D tl_cl (tl_W cJ cI cG ad (vp_updL E nf (x)) (nf + 1) T hn hs rt (tl_wD cr dn) (tl_wW cr wm) (tl_wC cr) pf pl O ol r8) H := hP
    refine lv_iconst (v := (nI (1))) hx hb d_D_writeEntry_23 (by decide) ?_
    refine lv_topi (nm_r (e' := tl_bi (tl_wB cr)) (by rw [h4]; rfl) ?_)
    exact W.zret hx hb hr (tl_bi_nar _) (fun t9 ht9 _ => tl_endI hS (by show va_P D tl_cl (tl_W cJ cI cG ad (if cr = 0 then E else vp_updL E nf x) (if cr = 0 then nf else nf + 1) T hn hs rt (tl_wD cr dn) (tl_wW cr wm) (tl_wC cr) pf pl O ol r8) _; rw [if_neg (tl_wB_t h4), if_neg (tl_wB_t h4)]; exact hP) ht9) hS.2.2 d_D_writeEntry_24
  · -- 4 f
    refine lv_iconst (v := (nI (0))) hx hb d_D_writeEntry_7 (by decide) ?_
    refine lv_topi (nm_r (e' := tl_bi (tl_wB cr)) (by rw [h4]; rfl) ?_)
    exact W.zret hx hb hr (tl_bi_nar _) (fun t9 ht9 _ => tl_endI hS (by show va_P D tl_cl (tl_W cJ cI cG ad (if cr = 0 then E else vp_updL E nf x) (if cr = 0 then nf else nf + 1) T hn hs rt (tl_wD cr dn) (tl_wW cr wm) (tl_wC cr) pf pl O ol r8) _; rw [if_pos (tl_wB_f h4), if_pos (tl_wB_f h4)]; exact hP) ht9) hS.2.2 d_D_writeEntry_8

set_option maxHeartbeats 4000000 in
set_option maxRecDepth 100000 in
theorem c_D_writeHead (l : Launch) (D : va_G) (cJ cI cG cZ : ClassId) (ad : Nat → Nat) (E : Nat → Int64) (nf : Nat) (T : Nat → Nat → Int64) (hn hs : Nat → Int32) (rt : Nat → Int64) (dn : Bool) (wm cr : Int32) (pf : Nat → Int64) (pl : Nat) (O : Nat → Int64) (ol : Nat) (r8 : Nat → Int64) (k n : Nat) (x : Int64) (hap : tl_ap ad 19) (hk : k < 2 ^ 31) : Met l y_D_writeHead (k_D_writeHead :: tl_ws) { frames := 1, cells := 0, slots := 0, locals := 20 } (tl_Pc D cJ cI cG cZ [.ref (ad 1), .int (nI (k)), .int (nI (n)), .long (x)] (fun H => va_P D tl_cl (tl_W cJ cI cG ad E nf T hn hs rt dn wm cr pf pl O ol r8) H)) (tl_Qi (tl_bi (tl_wB cr)) (fun H => va_P D tl_cl (tl_W cJ cI cG ad E nf T (if cr = 0 then hn else upd hn (k % 2) (nI k)) (if cr = 0 then hs else upd hs (k % 2) (nI n)) (if cr = 0 then rt else vp_updL rt (k % 2) x) (tl_wD cr dn) (tl_wW cr wm) (tl_wC cr) pf pl O ol r8) H) (tl_in ad 19)) 0 0 (tl_in ad 19) := by
  refine Met.ofW (cc := b_D_writeHead) (maxL := 6) (ret := (some .boolean)) (by decide) rfl ?_
  intro p e s m args below meth c s₁ B hml hv
  obtain ⟨rfl, hE, hP⟩ := hv
  have hx := B.exec
  have hb := B.bytes
  have hr := B.returns
  have hw : ∀ w ∈ tl_ws, w.before ([.ref (ad 1), .int (nI (k)), .int (nI (n)), .long (x)] : List Value).toArray s = true := fun w h => atoms_spec (ws := k_D_writeHead :: tl_ws) B.pre w (List.mem_cons_of_mem _ h)
  have hown : s.vm.findClass R_D = some m.cls := findClass_of_methodNamed B.named
  have hlocks := B.notSynchronized
  have hl := lv_entry ([.ref (ad 1), .int (nI (k)), .int (nI (n)), .long (x)]) (n := 6) (Nat.le_of_ble_eq_true rfl)
  rw [lg_entry_eq]
  generalize (lg_sl ([.ref (ad 1), .int (nI (k)), .int (nI (n)), .long (x)]) ++ List.replicate (6 - (lg_sl ([.ref (ad 1), .int (nI (k)), .int (nI (n)), .long (x)])).length) Slot.unset).toArray = ls at hl ⊢
  have hl : lv_has ls 6 [(0, .ref (ad 1)), (1, .int (nI (k))), (2, .int (nI (n))), (3, .long (x))] := hl
  have hP : va_P D tl_cl (tl_W cJ cI cG ad E nf T hn hs rt dn wm cr pf pl O ol r8) s.heap := hP
  have hS : va_S (tl_in ad 19) s.heap s.heap [] := va_S.rf
  refine lv_aload_n hx hb d_D_writeHead_0 rfl (lv_at hl 0 rfl) ?_
  refine tl_doI (v := (tl_bi (tl_wB cr))) (va_runV (As := []) (rest := []) ⟨hx, hb, hml, hown, hw⟩ (c_D_beginWrite l D cJ cI cG cZ ad E nf T hn hs rt dn wm cr pf pl O ol r8  hap) (⟨tl_cB hw tl_m45 tl_m2 tl_m43 dd_D_beginWrite rfl rfl ⟨Nat.le_of_ble_eq_true rfl, Nat.le_of_ble_eq_true rfl⟩, hw _ tl_m44, hw _ tl_m354⟩) (tl_preV hE hP (va_recv (q0 := 1) (ci := 1) (q := (R_D, F_D, 10)) hE.1 hP rfl rfl)) rfl rfl hl.1 rfl (lv_room (Nat.le_of_ble_eq_true rfl)) d_D_writeHead_1 ⟨Nat.zero_le _, Nat.zero_le _⟩) hS (fun _ h => h) (fun H locs hP hS _ => ?_)
  have hP : va_P D tl_cl (tl_W cJ cI cG ad E nf T hn hs rt (tl_wD cr dn) (tl_wW cr wm) (tl_wC cr) pf pl O ol r8) H := hP
  refine tl_bne (tgt := 9) hx hb d_D_writeHead_4 (by decide) (fun h4 => ?_) (fun h4 => ?_)
  · -- 4 t
    refine lv_iload_n hx hb d_D_writeHead_9 rfl (lv_at hl 1 rfl) ?_
    refine lv_iconst (v := (nI (1))) hx hb d_D_writeHead_10 (by decide) ?_
    refine lv_iand hx hb d_D_writeHead_11 ?_
    refine lv_topi (nm_r (e' := (nI (k % 2))) (tl_and1 (by omega)) ?_)
    refine lv_istore (lv' := [(5, .int (nI (k % 2))), (0, .ref (ad 1)), (1, .int (nI (k))), (2, .int (nI (n))), (3, .long (x))]) hx hb d_D_writeHead_12 hl (by decide) rfl (fun ls hl => ?_)
    refine lv_aload_n hx hb d_D_writeHead_14 rfl (lv_at hl 1 rfl) ?_
    refine va_get (ci := 1) (v := .ref (ad 6)) (C := R_D) (T := F_D) (N := 10) hx hb hw iw_D hown hE.1 hP 1 rfl rfl 2 (by decide) (hw _ tl_m22) (fun _ h9 => h9) rfl d_D_writeHead_15 ?_
    refine lv_iload hx hb d_D_writeHead_18 (lv_at hl 0 rfl) ?_
    refine lv_iload_n hx hb d_D_writeHead_20 rfl (lv_at hl 2 rfl) ?_
    refine tl_iast (a := (k % 2)) hx hb hE.1 hP (tl_DW hap) hS 6 1 rfl rfl (by omega) (by decide) d_D_writeHead_21 (fun H locs hP hS => ?_)
    have hP : va_P D tl_cl (tl_W cJ cI cG ad E nf T (upd hn (k % 2) (nI (k))) hs rt (tl_wD cr dn) (tl_wW cr wm) (tl_wC cr) pf pl O ol r8) H := hP
    refine lv_aload_n hx hb d_D_writeHead_22 rfl (lv_at hl 1 rfl) ?_
    refine va_get (ci := 1) (v := .ref (ad 7)) (C := R_D) (T := F_D) (N := 10) hx hb hw iw_D hown hE.1 hP 1 rfl rfl 3 (by decide) (hw _ tl_m23) (fun _ h9 => h9) rfl d_D_writeHead_23 ?_
    refine lv_iload hx hb d_D_writeHead_26 (lv_at hl 0 rfl) ?_
    refine lv_iload_n hx hb d_D_writeHead_28 rfl (lv_at hl 3 rfl) ?_
    refine tl_iast (a := (k % 2)) hx hb hE.1 hP (tl_DW hap) hS 7 1 rfl rfl (by omega) (by decide) d_D_writeHead_29 (fun H locs hP hS => ?_)
    have hP : va_P D tl_cl (tl_W cJ cI cG ad E nf T (upd hn (k % 2) (nI (k))) (upd hs (k % 2) (nI (n))) rt (tl_wD cr dn) (tl_wW cr wm) (tl_wC cr) pf pl O ol r8) H := hP
    refine lv_aload_n hx hb d_D_writeHead_30 rfl (lv_at hl 1 rfl) ?_
    refine va_get (ci := 1) (v := .ref (ad 8)) (C := R_D) (T := F_D) (N := 10) hx hb hw iw_D hown hE.1 hP 1 rfl rfl 4 (by decide) (hw _ tl_m24) (fun _ h9 => h9) rfl d_D_writeHead_31 ?_
    refine lv_iload hx hb d_D_writeHead_34 (lv_at hl 0 rfl) ?_
    refine lv_lload_n hx hb d_D_writeHead_36 rfl (lv_at hl 4 rfl) ?_
    refine tl_last (a := (k % 2)) hx hb hE.1 hP (tl_DW hap) hS 8 0 rfl rfl (by omega) (by decide) d_D_writeHead_37 (fun H locs hP hS => ?_)
    have hP : va_P D tl_cl (tl_W cJ cI cG ad E nf T (upd hn (k % 2) (nI (k))) (upd hs (k % 2) (nI (n))) (vp_updL rt (k % 2) (x)) (tl_wD cr dn) (tl_wW cr wm) (tl_wC cr) pf pl O ol r8) H := hP
    refine lv_iconst (v := (nI (1))) hx hb d_D_writeHead_38 (by decide) ?_
    refine lv_topi (nm_r (e' := tl_bi (tl_wB cr)) (by rw [h4]; rfl) ?_)
    exact W.zret hx hb hr (tl_bi_nar _) (fun t9 ht9 _ => tl_endI hS (by show va_P D tl_cl (tl_W cJ cI cG ad E nf T (if cr = 0 then hn else upd hn (k % 2) (nI k)) (if cr = 0 then hs else upd hs (k % 2) (nI n)) (if cr = 0 then rt else vp_updL rt (k % 2) x) (tl_wD cr dn) (tl_wW cr wm) (tl_wC cr) pf pl O ol r8) _; rw [if_neg (tl_wB_t h4), if_neg (tl_wB_t h4), if_neg (tl_wB_t h4)]; exact hP) ht9) hS.2.2 d_D_writeHead_39
  · -- 4 f
    refine lv_iconst (v := (nI (0))) hx hb d_D_writeHead_7 (by decide) ?_
    refine lv_topi (nm_r (e' := tl_bi (tl_wB cr)) (by rw [h4]; rfl) ?_)
    exact W.zret hx hb hr (tl_bi_nar _) (fun t9 ht9 _ => tl_endI hS (by show va_P D tl_cl (tl_W cJ cI cG ad E nf T (if cr = 0 then hn else upd hn (k % 2) (nI k)) (if cr = 0 then hs else upd hs (k % 2) (nI n)) (if cr = 0 then rt else vp_updL rt (k % 2) x) (tl_wD cr dn) (tl_wW cr wm) (tl_wC cr) pf pl O ol r8) _; rw [if_pos (tl_wB_f h4), if_pos (tl_wB_f h4), if_pos (tl_wB_f h4)]; exact hP) ht9) hS.2.2 d_D_writeHead_8

set_option maxHeartbeats 4000000 in
set_option maxRecDepth 100000 in
theorem c_D_isRight (l : Launch) (D : va_G) (cJ cI cG cZ : ClassId) (ad : Nat → Nat) (E : Nat → Int64) (nf : Nat) (T : Nat → Nat → Int64) (hn hs : Nat → Int32) (rt : Nat → Int64) (dn : Bool) (wm cr : Int32) (pf : Nat → Int64) (pl : Nat) (O : Nat → Int64) (ol : Nat) (r8 : Nat → Int64) (t n : Nat) (hap : tl_ap ad 19) (ht : t < 9) (hn2 : n ≤ 64) : Met l y_D_isRight (k_D_isRight :: tl_ws) { frames := 10, cells := 0, slots := 0, locals := 234 } (tl_Pc D cJ cI cG cZ [.ref (ad 1), .int (nI (t)), .int (nI (n))] (fun H => va_P D tl_cl (tl_W cJ cI cG ad E nf T hn hs rt dn wm cr pf pl O ol r8) H)) (tl_Qi (tl_bi (tl_eqv (T t) (tl_right E n t) 8)) (fun H => ∃ r9 : Nat → Int64, (∀ j, j < 8 → r9 j = tl_right E n t j) ∧ va_P D tl_cl (tl_W cJ cI cG ad E nf T hn hs rt dn wm cr pf pl O ol r9) H) (tl_in ad 19)) 0 0 (tl_in ad 19) := by
  refine Met.ofW (cc := b_D_isRight) (maxL := 5) (ret := (some .boolean)) (by decide) rfl ?_
  intro p e s m args below meth c s₁ B hml hv
  obtain ⟨rfl, hE, hP⟩ := hv
  have hx := B.exec
  have hb := B.bytes
  have hr := B.returns
  have hw : ∀ w ∈ tl_ws, w.before ([.ref (ad 1), .int (nI (t)), .int (nI (n))] : List Value).toArray s = true := fun w h => atoms_spec (ws := k_D_isRight :: tl_ws) B.pre w (List.mem_cons_of_mem _ h)
  have hown : s.vm.findClass R_D = some m.cls := findClass_of_methodNamed B.named
  have hlocks := B.notSynchronized
  have hl := lv_entry ([.ref (ad 1), .int (nI (t)), .int (nI (n))]) (n := 5) (Nat.le_of_ble_eq_true rfl)
  rw [lg_entry_eq]
  generalize (lg_sl ([.ref (ad 1), .int (nI (t)), .int (nI (n))]) ++ List.replicate (5 - (lg_sl ([.ref (ad 1), .int (nI (t)), .int (nI (n))])).length) Slot.unset).toArray = ls at hl ⊢
  have hl : lv_has ls 5 [(0, .ref (ad 1)), (1, .int (nI (t))), (2, .int (nI (n)))] := hl
  have hP : va_P D tl_cl (tl_W cJ cI cG ad E nf T hn hs rt dn wm cr pf pl O ol r8) s.heap := hP
  have hS : va_S (tl_in ad 19) s.heap s.heap [] := va_S.rf
  refine lv_iconst (v := (nI (1))) hx hb d_D_isRight_0 (by decide) ?_
  refine lv_istore_n (lv' := [(3, .int (nI (1))), (0, .ref (ad 1)), (1, .int (nI (t))), (2, .int (nI (n)))]) hx hb d_D_isRight_1 rfl hl (by decide) rfl (fun ls hl => ?_)
  refine lv_iconst (v := (nI (0))) hx hb d_D_isRight_2 (by decide) ?_
  refine lv_istore (lv' := [(4, .int (nI (0))), (3, .int (nI (1))), (0, .ref (ad 1)), (1, .int (nI (t))), (2, .int (nI (n)))]) hx hb d_D_isRight_3 hl (by decide) rfl (fun ls hl => ?_)
  refine tl_loopW (fun n5 ls H locs => ∃ (i : Nat) (rg : Bool) (r9 : Nat → Int64), lv_has ls 5 [(4, .int (nI (i))), (3, .int (tl_bi (rg))), (0, .ref (ad 1)), (1, .int (nI (t))), (2, .int (nI (n)))] ∧ va_P D tl_cl (tl_W cJ cI cG ad E nf T hn hs rt dn wm cr pf pl O ol r9) H ∧ va_S (tl_in ad 19) s.heap H locs ∧ (i ≤ 8) ∧ (n5 = 8 - i) ∧ (∀ j, j < i → r9 j = tl_right E n t j) ∧ (rg = tl_eqv (T t) (tl_right E n t) i)) (fun n5 ls H locs hI ih5 => ?_) 8 _ _ _ ⟨0, true, r8, lv_sub hl [0, 1, 2, 3, 4] rfl, hP, hS, by omega, by omega, fun j hj => absurd hj (Nat.not_lt_zero _), tl_eqv_0⟩
  obtain ⟨i, rg, r9, hl, hP, hS, hi, hm, h8, hrg⟩ := hI
  refine lv_iload hx hb d_D_isRight_5 (lv_at hl 0 rfl) ?_
  refine lv_bipush (v := (nI (8))) hx hb d_D_isRight_7 (by decide) ?_
  refine tl_cge (tgt := 83) (by omega) (by omega) hx hb d_D_isRight_9 (by decide) (fun h9 => ?_) (fun h9 => ?_)
  · -- 9 t
    refine lv_iload_n hx hb d_D_isRight_83 rfl (lv_at hl 1 rfl) ?_
    refine lv_topi (nm_r (e' := tl_bi (tl_eqv (T t) (tl_right E n t) 8)) (by rw [hrg, show i = 8 by omega]) ?_)
    exact W.zret hx hb hr (tl_bi_nar _) (fun t9 ht9 _ => tl_endI hS (⟨r9, fun j hj => h8 j (by omega), hP⟩) ht9) hS.2.2 d_D_isRight_84
  · -- 9 f
    refine lv_aload_n hx hb d_D_isRight_12 rfl (lv_at hl 2 rfl) ?_
    refine va_get (ci := 1) (v := .ref (ad 9)) (C := R_D) (T := F_D) (N := 10) hx hb hw iw_D hown hE.1 hP 1 rfl rfl 5 (by decide) (hw _ tl_m25) (fun _ h9 => h9) rfl d_D_isRight_13 ?_
    refine lv_iload hx hb d_D_isRight_16 (lv_at hl 0 rfl) ?_
    refine lv_iload_n hx hb d_D_isRight_18 rfl (lv_at hl 3 rfl) ?_
    refine lv_bipush (v := (nI (8))) hx hb d_D_isRight_19 (by decide) ?_
    refine tl_cge (tgt := 39) (by omega) (by omega) hx hb d_D_isRight_21 (by decide) (fun h21 => ?_) (fun h21 => ?_)
    · -- 21 t
      refine lv_aload_n hx hb d_D_isRight_39 rfl (lv_at hl 2 rfl) ?_
      refine lv_iload hx hb d_D_isRight_40 (lv_at hl 0 rfl) ?_
      refine lv_iload_n hx hb d_D_isRight_42 rfl (lv_at hl 4 rfl) ?_
      refine tl_goL (v := (if i * 8 + 8 ≤ n then tl_root E (i * 8) 8 else 0)) (va_runV (As := [.int (nI (i)), .int (nI (n))]) (rest := [.int (nI (i)), .ref (ad 9)]) ⟨hx, hb, hml, hown, hw⟩ (c_D_groupBelow l D cJ cI cG cZ ad E nf T hn hs rt dn wm cr pf pl O ol r9 i n (by omega) (by omega)) (⟨tl_cB hw tl_m73 tl_m2 tl_m71 dd_D_groupBelow rfl rfl ⟨Nat.le_of_ble_eq_true rfl, Nat.le_of_ble_eq_true rfl⟩, hw _ tl_m72, hw _ tl_m360⟩) (tl_preV hE hP (va_recv (q0 := 1) (ci := 1) (q := (R_D, F_D, 10)) hE.1 hP rfl rfl)) rfl rfl hl.1 rfl (lv_room (Nat.le_of_ble_eq_true rfl)) d_D_isRight_43 ⟨Nat.zero_le _, Nat.zero_le _⟩) ?_
      refine lv_topl (nm_r (e' := (tl_right E n t i)) (by first | rw [tl_right_lo (by omega)] | rw [tl_right_hi (by omega)]) ?_)
      refine tl_last (a := i) hx hb hE.1 hP (tl_DW hap) hS 9 0 rfl rfl (by omega) (by decide) d_D_isRight_46 (fun H locs hP hS => ?_)
      have hP : va_P D tl_cl (tl_W cJ cI cG ad E nf T hn hs rt dn wm cr pf pl O ol (vp_updL r9 i (tl_right E n t i))) H := hP
      refine lv_iload_n hx hb d_D_isRight_47 rfl (lv_at hl 1 rfl) ?_
      refine tl_beq (tgt := 75) hx hb d_D_isRight_48 (by decide) (fun h48 => ?_) (fun h48 => ?_)
      · -- 48 t
        refine lv_iconst (v := (nI (0))) hx hb d_D_isRight_75 (by decide) ?_
        refine lv_istore_n (lv' := [(3, .int (nI (0))), (4, .int (nI (i))), (0, .ref (ad 1)), (1, .int (nI (t))), (2, .int (nI (n)))]) hx hb d_D_isRight_76 rfl hl (by decide) rfl (fun ls hl => ?_)
        refine lv_iinc (k := 1) (v := (nI (i + 1))) (lv' := [(4, .int (nI (i + 1))), (3, .int (nI (0))), (0, .ref (ad 1)), (1, .int (nI (t))), (2, .int (nI (n)))]) hx hb d_D_isRight_77 hl rfl (by rw [lit1]; exact (nI_succ _).symm) (by decide) rfl (fun ls hl => ?_)
        refine lv_goto (tgt := 5) hx hb d_D_isRight_80 (by decide) ?_
        exact ih5 (n5 - 1) _ _ _ (by omega) ⟨i + 1, false, (vp_updL r9 i (tl_right E n t i)), lv_sub hl [0, 1, 2, 3, 4] rfl, hP, hS, by omega, by omega, tl_updL_all h8, by first | exact tl_eqv_F1 hrg h48 | exact tl_eqv_F2 h68⟩
      · -- 48 f
        refine lv_aload_n hx hb d_D_isRight_51 rfl (lv_at hl 2 rfl) ?_
        refine va_get (ci := 1) (v := .ref (ad 5)) (C := R_D) (T := F_D) (N := 10) hx hb hw iw_D hown hE.1 hP 1 rfl rfl 1 (by decide) (hw _ tl_m21) (fun _ h9 => h9) rfl d_D_isRight_52 ?_
        refine lv_iload_n hx hb d_D_isRight_55 rfl (lv_at hl 3 rfl) ?_
        refine tl_aald (a := t) hx hb hE.1 hP 5 2 rfl rfl (by omega) (by decide) rfl d_D_isRight_56 ?_
        refine lv_iload hx hb d_D_isRight_57 (lv_at hl 0 rfl) ?_
        refine tl_lald (a := i) hx hb hE.1 hP (10 + t) 0 (tl_Wt (by omega)) rfl (by omega) (by decide) d_D_isRight_59 ?_
        refine lv_aload_n hx hb d_D_isRight_60 rfl (lv_at hl 2 rfl) ?_
        refine va_get (ci := 1) (v := .ref (ad 9)) (C := R_D) (T := F_D) (N := 10) hx hb hw iw_D hown hE.1 hP 1 rfl rfl 5 (by decide) (hw _ tl_m25) (fun _ h9 => h9) rfl d_D_isRight_61 ?_
        refine lv_iload hx hb d_D_isRight_64 (lv_at hl 0 rfl) ?_
        refine tl_lald (a := i) hx hb hE.1 hP 9 0 rfl rfl (by omega) (by decide) d_D_isRight_66 ?_
        refine lv_topl (nm_r (e' := (tl_right E n t i)) (pk_uLs) ?_)
        refine tl_lne (tgt := 75) hx hb d_D_isRight_67 d_D_isRight_68 (by decide) (fun h68 => ?_) (fun h68 => ?_)
        · -- 68 t
          refine lv_iconst (v := (nI (0))) hx hb d_D_isRight_75 (by decide) ?_
          refine lv_istore_n (lv' := [(3, .int (nI (0))), (4, .int (nI (i))), (0, .ref (ad 1)), (1, .int (nI (t))), (2, .int (nI (n)))]) hx hb d_D_isRight_76 rfl hl (by decide) rfl (fun ls hl => ?_)
          refine lv_iinc (k := 1) (v := (nI (i + 1))) (lv' := [(4, .int (nI (i + 1))), (3, .int (nI (0))), (0, .ref (ad 1)), (1, .int (nI (t))), (2, .int (nI (n)))]) hx hb d_D_isRight_77 hl rfl (by rw [lit1]; exact (nI_succ _).symm) (by decide) rfl (fun ls hl => ?_)
          refine lv_goto (tgt := 5) hx hb d_D_isRight_80 (by decide) ?_
          exact ih5 (n5 - 1) _ _ _ (by omega) ⟨i + 1, false, (vp_updL r9 i (tl_right E n t i)), lv_sub hl [0, 1, 2, 3, 4] rfl, hP, hS, by omega, by omega, tl_updL_all h8, by first | exact tl_eqv_F1 hrg h48 | exact tl_eqv_F2 h68⟩
        · -- 68 f
          refine lv_iconst (v := (nI (1))) hx hb d_D_isRight_71 (by decide) ?_
          refine lv_goto (tgt := 76) hx hb d_D_isRight_72 (by decide) ?_
          refine lv_istore_n (lv' := [(3, .int (nI (1))), (4, .int (nI (i))), (0, .ref (ad 1)), (1, .int (nI (t))), (2, .int (nI (n)))]) hx hb d_D_isRight_76 rfl hl (by decide) rfl (fun ls hl => ?_)
          refine lv_iinc (k := 1) (v := (nI (i + 1))) (lv' := [(4, .int (nI (i + 1))), (3, .int (nI (1))), (0, .ref (ad 1)), (1, .int (nI (t))), (2, .int (nI (n)))]) hx hb d_D_isRight_77 hl rfl (by rw [lit1]; exact (nI_succ _).symm) (by decide) rfl (fun ls hl => ?_)
          refine lv_goto (tgt := 5) hx hb d_D_isRight_80 (by decide) ?_
          exact ih5 (n5 - 1) _ _ _ (by omega) ⟨i + 1, true, (vp_updL r9 i (tl_right E n t i)), lv_sub hl [0, 1, 2, 3, 4] rfl, hP, hS, by omega, by omega, tl_updL_all h8, tl_eqv_T hrg h48 h68⟩
    · -- 21 f
      refine lv_aload_n hx hb d_D_isRight_24 rfl (lv_at hl 2 rfl) ?_
      refine lv_iload_n hx hb d_D_isRight_25 rfl (lv_at hl 3 rfl) ?_
      refine lv_bipush (v := (nI (8))) hx hb d_D_isRight_26 (by decide) ?_
      refine lv_imul hx hb d_D_isRight_28 ?_
      refine lv_topi (nm_r (e' := (nI (t * 8))) (pk_mul _ _) ?_)
      refine lv_iload hx hb d_D_isRight_29 (lv_at hl 0 rfl) ?_
      refine lv_iadd hx hb d_D_isRight_31 ?_
      refine lv_topi (nm_r (e' := (nI ((t * 8) + i))) (nI_add _ _) ?_)
      refine lv_iload_n hx hb d_D_isRight_32 rfl (lv_at hl 4 rfl) ?_
      refine tl_goL (v := (if ((t * 8) + i) < n then tl_leaf (E ((t * 8) + i)) else 0)) (va_runV (As := [.int (nI ((t * 8) + i)), .int (nI (n))]) (rest := [.int (nI (i)), .ref (ad 9)]) ⟨hx, hb, hml, hown, hw⟩ (c_D_leafBelow l D cJ cI cG cZ ad E nf T hn hs rt dn wm cr pf pl O ol r9 ((t * 8) + i) n (by omega) (by omega)) (⟨tl_cB hw tl_m62 tl_m2 tl_m60 dd_D_leafBelow rfl rfl ⟨Nat.le_of_ble_eq_true rfl, Nat.le_of_ble_eq_true rfl⟩, hw _ tl_m61, hw _ tl_m359⟩) (tl_preV hE hP (va_recv (q0 := 1) (ci := 1) (q := (R_D, F_D, 10)) hE.1 hP rfl rfl)) rfl rfl hl.1 rfl (lv_room (Nat.le_of_ble_eq_true rfl)) d_D_isRight_33 ⟨Nat.zero_le _, Nat.zero_le _⟩) ?_
      refine lv_goto (tgt := 46) hx hb d_D_isRight_36 (by decide) ?_
      refine lv_topl (nm_r (e' := (tl_right E n t i)) (by first | rw [tl_right_lo (by omega)] | rw [tl_right_hi (by omega)]) ?_)
      refine tl_last (a := i) hx hb hE.1 hP (tl_DW hap) hS 9 0 rfl rfl (by omega) (by decide) d_D_isRight_46 (fun H locs hP hS => ?_)
      have hP : va_P D tl_cl (tl_W cJ cI cG ad E nf T hn hs rt dn wm cr pf pl O ol (vp_updL r9 i (tl_right E n t i))) H := hP
      refine lv_iload_n hx hb d_D_isRight_47 rfl (lv_at hl 1 rfl) ?_
      refine tl_beq (tgt := 75) hx hb d_D_isRight_48 (by decide) (fun h48 => ?_) (fun h48 => ?_)
      · -- 48 t
        refine lv_iconst (v := (nI (0))) hx hb d_D_isRight_75 (by decide) ?_
        refine lv_istore_n (lv' := [(3, .int (nI (0))), (4, .int (nI (i))), (0, .ref (ad 1)), (1, .int (nI (t))), (2, .int (nI (n)))]) hx hb d_D_isRight_76 rfl hl (by decide) rfl (fun ls hl => ?_)
        refine lv_iinc (k := 1) (v := (nI (i + 1))) (lv' := [(4, .int (nI (i + 1))), (3, .int (nI (0))), (0, .ref (ad 1)), (1, .int (nI (t))), (2, .int (nI (n)))]) hx hb d_D_isRight_77 hl rfl (by rw [lit1]; exact (nI_succ _).symm) (by decide) rfl (fun ls hl => ?_)
        refine lv_goto (tgt := 5) hx hb d_D_isRight_80 (by decide) ?_
        exact ih5 (n5 - 1) _ _ _ (by omega) ⟨i + 1, false, (vp_updL r9 i (tl_right E n t i)), lv_sub hl [0, 1, 2, 3, 4] rfl, hP, hS, by omega, by omega, tl_updL_all h8, by first | exact tl_eqv_F1 hrg h48 | exact tl_eqv_F2 h68⟩
      · -- 48 f
        refine lv_aload_n hx hb d_D_isRight_51 rfl (lv_at hl 2 rfl) ?_
        refine va_get (ci := 1) (v := .ref (ad 5)) (C := R_D) (T := F_D) (N := 10) hx hb hw iw_D hown hE.1 hP 1 rfl rfl 1 (by decide) (hw _ tl_m21) (fun _ h9 => h9) rfl d_D_isRight_52 ?_
        refine lv_iload_n hx hb d_D_isRight_55 rfl (lv_at hl 3 rfl) ?_
        refine tl_aald (a := t) hx hb hE.1 hP 5 2 rfl rfl (by omega) (by decide) rfl d_D_isRight_56 ?_
        refine lv_iload hx hb d_D_isRight_57 (lv_at hl 0 rfl) ?_
        refine tl_lald (a := i) hx hb hE.1 hP (10 + t) 0 (tl_Wt (by omega)) rfl (by omega) (by decide) d_D_isRight_59 ?_
        refine lv_aload_n hx hb d_D_isRight_60 rfl (lv_at hl 2 rfl) ?_
        refine va_get (ci := 1) (v := .ref (ad 9)) (C := R_D) (T := F_D) (N := 10) hx hb hw iw_D hown hE.1 hP 1 rfl rfl 5 (by decide) (hw _ tl_m25) (fun _ h9 => h9) rfl d_D_isRight_61 ?_
        refine lv_iload hx hb d_D_isRight_64 (lv_at hl 0 rfl) ?_
        refine tl_lald (a := i) hx hb hE.1 hP 9 0 rfl rfl (by omega) (by decide) d_D_isRight_66 ?_
        refine lv_topl (nm_r (e' := (tl_right E n t i)) (pk_uLs) ?_)
        refine tl_lne (tgt := 75) hx hb d_D_isRight_67 d_D_isRight_68 (by decide) (fun h68 => ?_) (fun h68 => ?_)
        · -- 68 t
          refine lv_iconst (v := (nI (0))) hx hb d_D_isRight_75 (by decide) ?_
          refine lv_istore_n (lv' := [(3, .int (nI (0))), (4, .int (nI (i))), (0, .ref (ad 1)), (1, .int (nI (t))), (2, .int (nI (n)))]) hx hb d_D_isRight_76 rfl hl (by decide) rfl (fun ls hl => ?_)
          refine lv_iinc (k := 1) (v := (nI (i + 1))) (lv' := [(4, .int (nI (i + 1))), (3, .int (nI (0))), (0, .ref (ad 1)), (1, .int (nI (t))), (2, .int (nI (n)))]) hx hb d_D_isRight_77 hl rfl (by rw [lit1]; exact (nI_succ _).symm) (by decide) rfl (fun ls hl => ?_)
          refine lv_goto (tgt := 5) hx hb d_D_isRight_80 (by decide) ?_
          exact ih5 (n5 - 1) _ _ _ (by omega) ⟨i + 1, false, (vp_updL r9 i (tl_right E n t i)), lv_sub hl [0, 1, 2, 3, 4] rfl, hP, hS, by omega, by omega, tl_updL_all h8, by first | exact tl_eqv_F1 hrg h48 | exact tl_eqv_F2 h68⟩
        · -- 68 f
          refine lv_iconst (v := (nI (1))) hx hb d_D_isRight_71 (by decide) ?_
          refine lv_goto (tgt := 76) hx hb d_D_isRight_72 (by decide) ?_
          refine lv_istore_n (lv' := [(3, .int (nI (1))), (4, .int (nI (i))), (0, .ref (ad 1)), (1, .int (nI (t))), (2, .int (nI (n)))]) hx hb d_D_isRight_76 rfl hl (by decide) rfl (fun ls hl => ?_)
          refine lv_iinc (k := 1) (v := (nI (i + 1))) (lv' := [(4, .int (nI (i + 1))), (3, .int (nI (1))), (0, .ref (ad 1)), (1, .int (nI (t))), (2, .int (nI (n)))]) hx hb d_D_isRight_77 hl rfl (by rw [lit1]; exact (nI_succ _).symm) (by decide) rfl (fun ls hl => ?_)
          refine lv_goto (tgt := 5) hx hb d_D_isRight_80 (by decide) ?_
          exact ih5 (n5 - 1) _ _ _ (by omega) ⟨i + 1, true, (vp_updL r9 i (tl_right E n t i)), lv_sub hl [0, 1, 2, 3, 4] rfl, hP, hS, by omega, by omega, tl_updL_all h8, tl_eqv_T hrg h48 h68⟩

set_option maxHeartbeats 4000000 in
set_option maxRecDepth 100000 in
theorem c_D_writeTile (l : Launch) (D : va_G) (cJ cI cG cZ : ClassId) (ad : Nat → Nat) (E : Nat → Int64) (nf : Nat) (T : Nat → Nat → Int64) (hn hs : Nat → Int32) (rt : Nat → Int64) (dn : Bool) (wm cr : Int32) (pf : Nat → Int64) (pl : Nat) (O : Nat → Int64) (ol : Nat) (r8 : Nat → Int64) (t : Nat) (g : Nat → Int64) (hap : tl_ap ad 19) (ht : t < 9) (hg : ∀ j, j < 8 → r8 j = g j) : Met l y_D_writeTile (k_D_writeTile :: tl_ws) { frames := 1, cells := 0, slots := 0, locals := 60 } (tl_Pc D cJ cI cG cZ [.ref (ad 1), .int (nI (t))] (fun H => va_P D tl_cl (tl_W cJ cI cG ad E nf T hn hs rt dn wm cr pf pl O ol r8) H)) (tl_Qi (tl_bi (tl_wB cr)) (fun H => va_P D tl_cl (tl_W cJ cI cG ad E nf (if cr = 0 then T else tl_setT T t g) hn hs rt (tl_wD cr dn) (tl_wW cr wm) (tl_wC cr) pf pl O ol r8) H) (tl_in ad 19)) 0 0 (tl_in ad 19) := by
  refine Met.ofW (cc := b_D_writeTile) (maxL := 2) (ret := (some .boolean)) (by decide) rfl ?_
  intro p e s m args below meth c s₁ B hml hv
  obtain ⟨rfl, hE, hP⟩ := hv
  have hx := B.exec
  have hb := B.bytes
  have hr := B.returns
  have hw : ∀ w ∈ tl_ws, w.before ([.ref (ad 1), .int (nI (t))] : List Value).toArray s = true := fun w h => atoms_spec (ws := k_D_writeTile :: tl_ws) B.pre w (List.mem_cons_of_mem _ h)
  have hown : s.vm.findClass R_D = some m.cls := findClass_of_methodNamed B.named
  have hlocks := B.notSynchronized
  have hl := lv_entry ([.ref (ad 1), .int (nI (t))]) (n := 2) (Nat.le_of_ble_eq_true rfl)
  rw [lg_entry_eq]
  generalize (lg_sl ([.ref (ad 1), .int (nI (t))]) ++ List.replicate (2 - (lg_sl ([.ref (ad 1), .int (nI (t))])).length) Slot.unset).toArray = ls at hl ⊢
  have hl : lv_has ls 2 [(0, .ref (ad 1)), (1, .int (nI (t)))] := hl
  have hP : va_P D tl_cl (tl_W cJ cI cG ad E nf T hn hs rt dn wm cr pf pl O ol r8) s.heap := hP
  have hS : va_S (tl_in ad 19) s.heap s.heap [] := va_S.rf
  refine lv_aload_n hx hb d_D_writeTile_0 rfl (lv_at hl 0 rfl) ?_
  refine tl_doI (v := (tl_bi (tl_wB cr))) (va_runV (As := []) (rest := []) ⟨hx, hb, hml, hown, hw⟩ (c_D_beginWrite l D cJ cI cG cZ ad E nf T hn hs rt dn wm cr pf pl O ol r8  hap) (⟨tl_cB hw tl_m45 tl_m2 tl_m43 dd_D_beginWrite rfl rfl ⟨Nat.le_of_ble_eq_true rfl, Nat.le_of_ble_eq_true rfl⟩, hw _ tl_m44, hw _ tl_m354⟩) (tl_preV hE hP (va_recv (q0 := 1) (ci := 1) (q := (R_D, F_D, 10)) hE.1 hP rfl rfl)) rfl rfl hl.1 rfl (lv_room (Nat.le_of_ble_eq_true rfl)) d_D_writeTile_1 ⟨Nat.zero_le _, Nat.zero_le _⟩) hS (fun _ h => h) (fun H locs hP hS _ => ?_)
  have hP : va_P D tl_cl (tl_W cJ cI cG ad E nf T hn hs rt (tl_wD cr dn) (tl_wW cr wm) (tl_wC cr) pf pl O ol r8) H := hP
  refine tl_bne (tgt := 9) hx hb d_D_writeTile_4 (by decide) (fun h4 => ?_) (fun h4 => ?_)
  · -- 4 t
    refine lv_aload_n hx hb d_D_writeTile_9 rfl (lv_at hl 0 rfl) ?_
    refine va_get (ci := 1) (v := .ref (ad 9)) (C := R_D) (T := F_D) (N := 10) hx hb hw iw_D hown hE.1 hP 1 rfl rfl 5 (by decide) (hw _ tl_m25) (fun _ h9 => h9) rfl d_D_writeTile_10 ?_
    refine lv_iconst (v := (nI (0))) hx hb d_D_writeTile_13 (by decide) ?_
    refine lv_aload_n hx hb d_D_writeTile_14 rfl (lv_at hl 0 rfl) ?_
    refine va_get (ci := 1) (v := .ref (ad 5)) (C := R_D) (T := F_D) (N := 10) hx hb hw iw_D hown hE.1 hP 1 rfl rfl 1 (by decide) (hw _ tl_m21) (fun _ h9 => h9) rfl d_D_writeTile_15 ?_
    refine lv_iload_n hx hb d_D_writeTile_18 rfl (lv_at hl 1 rfl) ?_
    refine tl_aald (a := t) hx hb hE.1 hP 5 2 rfl rfl (by omega) (by decide) rfl d_D_writeTile_19 ?_
    refine lv_iconst (v := (nI (0))) hx hb d_D_writeTile_20 (by decide) ?_
    refine lv_bipush (v := (nI (8))) hx hb d_D_writeTile_21 (by decide) ?_
    refine va_copyl (ty := .long) hx hb (by rw [hml]; exact hl.1.symm) hown (hw _ tl_m88) (hw _ tl_m90) (hw _ tl_m89) (hw _ tl_m5) hE.1 hP (tl_DW hap) hS 9 (10 + t) 0 0 rfl (tl_Wt (by omega)) rfl rfl rfl (by decide) (by decide) (by decide) (by decide) (by decide) (fun _ _ => rfl) (Nat.le_of_ble_eq_true rfl) (Nat.le_of_ble_eq_true rfl) d_D_writeTile_23 (fun H locs hP _ hS => ?_)
    have hP : va_P D tl_cl ((tl_W cJ cI cG ad E nf T hn hs rt (tl_wD cr dn) (tl_wW cr wm) (tl_wC cr) pf pl O ol r8).set (10 + t) (ad (10 + t), .inl (cJ, 8, .inr (.inl (va_cpy r8 (T t) 0 0 8))))) H := hP
    have hP := tl_Wset (g := g) (by omega) (fun j hj => by rw [tl_cpy8 hj]; exact hg j hj) hP
    have hP : va_P D tl_cl (tl_W cJ cI cG ad E nf (tl_setT T t g) hn hs rt (tl_wD cr dn) (tl_wW cr wm) (tl_wC cr) pf pl O ol r8) H := hP
    refine lv_iconst (v := (nI (1))) hx hb d_D_writeTile_26 (by decide) ?_
    refine lv_topi (nm_r (e' := tl_bi (tl_wB cr)) (by rw [h4]; rfl) ?_)
    exact W.zret hx hb hr (tl_bi_nar _) (fun t9 ht9 _ => tl_endI hS (by show va_P D tl_cl (tl_W cJ cI cG ad E nf (if cr = 0 then T else tl_setT T t g) hn hs rt (tl_wD cr dn) (tl_wW cr wm) (tl_wC cr) pf pl O ol r8) _; rw [if_neg (tl_wB_t h4)]; exact hP) ht9) hS.2.2 d_D_writeTile_27
  · -- 4 f
    refine lv_iconst (v := (nI (0))) hx hb d_D_writeTile_7 (by decide) ?_
    refine lv_topi (nm_r (e' := tl_bi (tl_wB cr)) (by rw [h4]; rfl) ?_)
    exact W.zret hx hb hr (tl_bi_nar _) (fun t9 ht9 _ => tl_endI hS (by show va_P D tl_cl (tl_W cJ cI cG ad E nf (if cr = 0 then T else tl_setT T t g) hn hs rt (tl_wD cr dn) (tl_wW cr wm) (tl_wC cr) pf pl O ol r8) _; rw [if_pos (tl_wB_f h4)]; exact hP) ht9) hS.2.2 d_D_writeTile_8

set_option maxHeartbeats 4000000 in
set_option maxRecDepth 100000 in
theorem c_D_writeTilesFor (l : Launch) (D : va_G) (cJ cI cG cZ : ClassId) (ad : Nat → Nat) (E : Nat → Int64) (nf : Nat) (T : Nat → Nat → Int64) (hn hs : Nat → Int32) (rt : Nat → Int64) (dn : Bool) (wm cr : Int32) (pf : Nat → Int64) (pl : Nat) (O : Nat → Int64) (ol : Nat) (r8 : Nat → Int64) (n : Nat) (hap : tl_ap ad 19) (hn2 : n ≤ 64) : Met l y_D_writeTilesFor (k_D_writeTilesFor :: tl_ws) { frames := 11, cells := 0, slots := 0, locals := 258 } (tl_Pc D cJ cI cG cZ [.ref (ad 1), .int (nI (n))] (fun H => va_P D tl_cl (tl_W cJ cI cG ad E nf T hn hs rt dn wm cr pf pl O ol r8) H)) (tl_Qi (tl_bi (tl_put E n 9 0 (T, cr, dn, wm)).1) (fun H => ∃ r9 : Nat → Int64, va_P D tl_cl (tl_W cJ cI cG ad E nf ((tl_put E n 9 0 (T, cr, dn, wm)).2.1) hn hs rt ((tl_put E n 9 0 (T, cr, dn, wm)).2.2.2.1) ((tl_put E n 9 0 (T, cr, dn, wm)).2.2.2.2) ((tl_put E n 9 0 (T, cr, dn, wm)).2.2.1) pf pl O ol r9) H) (tl_in ad 19)) 0 0 (tl_in ad 19) := by
  refine Met.ofW (cc := b_D_writeTilesFor) (maxL := 3) (ret := (some .boolean)) (by decide) rfl ?_
  intro p e s m args below meth c s₁ B hml hv
  obtain ⟨rfl, hE, hP⟩ := hv
  have hx := B.exec
  have hb := B.bytes
  have hr := B.returns
  have hw : ∀ w ∈ tl_ws, w.before ([.ref (ad 1), .int (nI (n))] : List Value).toArray s = true := fun w h => atoms_spec (ws := k_D_writeTilesFor :: tl_ws) B.pre w (List.mem_cons_of_mem _ h)
  have hown : s.vm.findClass R_D = some m.cls := findClass_of_methodNamed B.named
  have hlocks := B.notSynchronized
  have hl := lv_entry ([.ref (ad 1), .int (nI (n))]) (n := 3) (Nat.le_of_ble_eq_true rfl)
  rw [lg_entry_eq]
  generalize (lg_sl ([.ref (ad 1), .int (nI (n))]) ++ List.replicate (3 - (lg_sl ([.ref (ad 1), .int (nI (n))])).length) Slot.unset).toArray = ls at hl ⊢
  have hl : lv_has ls 3 [(0, .ref (ad 1)), (1, .int (nI (n)))] := hl
  have hP : va_P D tl_cl (tl_W cJ cI cG ad E nf T hn hs rt dn wm cr pf pl O ol r8) s.heap := hP
  have hS : va_S (tl_in ad 19) s.heap s.heap [] := va_S.rf
  refine lv_iconst (v := (nI (0))) hx hb d_D_writeTilesFor_0 (by decide) ?_
  refine lv_istore_n (lv' := [(2, .int (nI (0))), (0, .ref (ad 1)), (1, .int (nI (n)))]) hx hb d_D_writeTilesFor_1 rfl hl (by decide) rfl (fun ls hl => ?_)
  refine tl_loopW (fun n2 ls H locs => ∃ (t : Nat) (T1 : Nat → Nat → Int64) (cr1 : Int32) (dn1 : Bool) (wm1 : Int32) (r7 : Nat → Int64), lv_has ls 3 [(2, .int (nI (t))), (0, .ref (ad 1)), (1, .int (nI (n)))] ∧ va_P D tl_cl (tl_W cJ cI cG ad E nf T1 hn hs rt dn1 wm1 cr1 pf pl O ol r7) H ∧ va_S (tl_in ad 19) s.heap H locs ∧ (t ≤ 9) ∧ (n2 = 9 - t) ∧ (tl_put E n (9 - t) t (T1, cr1, dn1, wm1) = tl_put E n 9 0 (T, cr, dn, wm))) (fun n2 ls H locs hI ih2 => ?_) 9 _ _ _ ⟨0, T, cr, dn, wm, r8, lv_sub hl [0, 1, 2] rfl, hP, hS, by omega, by omega, rfl⟩
  obtain ⟨t, T1, cr1, dn1, wm1, r7, hl, hP, hS, ht, hm, hq⟩ := hI
  refine lv_iload_n hx hb d_D_writeTilesFor_2 rfl (lv_at hl 0 rfl) ?_
  refine lv_bipush (v := (nI (9))) hx hb d_D_writeTilesFor_3 (by decide) ?_
  refine tl_cge (tgt := 33) (by omega) (by omega) hx hb d_D_writeTilesFor_5 (by decide) (fun h5 => ?_) (fun h5 => ?_)
  · -- 5 t
    refine lv_iconst (v := (nI (1))) hx hb d_D_writeTilesFor_33 (by decide) ?_
    refine lv_topi (nm_r (e' := tl_bi (tl_put E n 9 0 (T, cr, dn, wm)).1) (by rw [← hq, show 9 - t = 0 by omega]; rfl) ?_)
    exact W.zret hx hb hr (tl_bi_nar _) (fun t9 ht9 _ => tl_endI hS (by rw [← hq, show 9 - t = 0 by omega]; exact ⟨r7, hP⟩) ht9) hS.2.2 d_D_writeTilesFor_34
  · -- 5 f
    refine lv_aload_n hx hb d_D_writeTilesFor_8 rfl (lv_at hl 1 rfl) ?_
    refine lv_iload_n hx hb d_D_writeTilesFor_9 rfl (lv_at hl 0 rfl) ?_
    refine lv_iload_n hx hb d_D_writeTilesFor_10 rfl (lv_at hl 2 rfl) ?_
    refine tl_doI (v := tl_bi (tl_eqv (T1 t) (tl_right E n t) 8)) (va_runV (As := [.int (nI (t)), .int (nI (n))]) (rest := []) ⟨hx, hb, hml, hown, hw⟩ (c_D_isRight l D cJ cI cG cZ ad E nf T1 hn hs rt dn1 wm1 cr1 pf pl O ol r7 t n hap (by omega) (by omega)) (⟨tl_cB hw tl_m59 tl_m2 tl_m57 dd_D_isRight rfl rfl ⟨Nat.le_of_ble_eq_true rfl, Nat.le_of_ble_eq_true rfl⟩, hw _ tl_m58, hw _ tl_m358⟩) (tl_preV hE hP (va_recv (q0 := 1) (ci := 1) (q := (R_D, F_D, 10)) hE.1 hP rfl rfl)) rfl rfl hl.1 rfl (lv_room (Nat.le_of_ble_eq_true rfl)) d_D_writeTilesFor_11 ⟨Nat.zero_le _, Nat.zero_le _⟩) hS (fun _ h => h) (fun H locs hX hS _ => ?_)
    obtain ⟨r9, hr9, hP⟩ := hX
    have hP : va_P D tl_cl (tl_W cJ cI cG ad E nf T1 hn hs rt dn1 wm1 cr1 pf pl O ol r9) H := hP
    refine tl_bne (tgt := 27) hx hb d_D_writeTilesFor_14 (by decide) (fun h14 => ?_) (fun h14 => ?_)
    · -- 14 t
      refine lv_iinc (k := 0) (v := (nI (t + 1))) (lv' := [(2, .int (nI (t + 1))), (0, .ref (ad 1)), (1, .int (nI (n)))]) hx hb d_D_writeTilesFor_27 hl rfl (by rw [lit1]; exact (nI_succ _).symm) (by decide) rfl (fun ls hl => ?_)
      refine lv_goto (tgt := 2) hx hb d_D_writeTilesFor_30 (by decide) ?_
      exact ih2 (n2 - 1) _ _ _ (by omega) ⟨t + 1, T1, cr1, dn1, wm1, r9, lv_sub hl [0, 1, 2] rfl, hP, hS, by omega, by omega, (by rw [← hq, show 9 - t = (9 - (t + 1)) + 1 by omega, tl_put_ok (tl_eqv_t h14)])⟩
    · -- 14 f
      refine lv_aload_n hx hb d_D_writeTilesFor_17 rfl (lv_at hl 1 rfl) ?_
      refine lv_iload_n hx hb d_D_writeTilesFor_18 rfl (lv_at hl 0 rfl) ?_
      refine tl_doI (v := (tl_bi (tl_wB cr1))) (va_runV (As := [.int (nI (t))]) (rest := []) ⟨hx, hb, hml, hown, hw⟩ (c_D_writeTile l D cJ cI cG cZ ad E nf T1 hn hs rt dn1 wm1 cr1 pf pl O ol r9 t (tl_right E n t) hap (by omega) hr9) (⟨tl_cB hw tl_m87 tl_m2 tl_m85 dd_D_writeTile rfl rfl ⟨Nat.le_of_ble_eq_true rfl, Nat.le_of_ble_eq_true rfl⟩, hw _ tl_m86, hw _ tl_m361⟩) (tl_preV hE hP (va_recv (q0 := 1) (ci := 1) (q := (R_D, F_D, 10)) hE.1 hP rfl rfl)) rfl rfl hl.1 rfl (lv_room (Nat.le_of_ble_eq_true rfl)) d_D_writeTilesFor_19 ⟨Nat.zero_le _, Nat.zero_le _⟩) hS (fun _ h => h) (fun H locs hP hS _ => ?_)
      have hP : va_P D tl_cl (tl_W cJ cI cG ad E nf (if cr1 = 0 then T1 else tl_setT T1 t (tl_right E n t)) hn hs rt (tl_wD cr1 dn1) (tl_wW cr1 wm1) (tl_wC cr1) pf pl O ol r9) H := hP
      refine tl_bne (tgt := 27) hx hb d_D_writeTilesFor_22 (by decide) (fun h22 => ?_) (fun h22 => ?_)
      · -- 22 t
        have hc := tl_wB_t h22
        rw [if_neg hc, tl_wDn hc, tl_wWn hc, tl_wCn hc] at hP
        refine lv_iinc (k := 0) (v := (nI (t + 1))) (lv' := [(2, .int (nI (t + 1))), (0, .ref (ad 1)), (1, .int (nI (n)))]) hx hb d_D_writeTilesFor_27 hl rfl (by rw [lit1]; exact (nI_succ _).symm) (by decide) rfl (fun ls hl => ?_)
        refine lv_goto (tgt := 2) hx hb d_D_writeTilesFor_30 (by decide) ?_
        exact ih2 (n2 - 1) _ _ _ (by omega) ⟨t + 1, tl_setT T1 t (tl_right E n t), tl_dec cr1, dn1, wm1 + 1, r9, lv_sub hl [0, 1, 2] rfl, hP, hS, by omega, by omega, (by rw [← hq, show 9 - t = (9 - (t + 1)) + 1 by omega, tl_put_go (tl_eqv_f h14) hc])⟩
      · -- 22 f
        have hc := tl_wB_f h22
        rw [if_pos hc, tl_wD0 hc, tl_wW0 hc, tl_wC0 hc] at hP
        rw [show 9 - t = (9 - (t + 1)) + 1 by omega, tl_put_no (tl_eqv_f h14) hc] at hq
        refine lv_iconst (v := (nI (0))) hx hb d_D_writeTilesFor_25 (by decide) ?_
        refine lv_topi (nm_r (e' := tl_bi (tl_put E n 9 0 (T, cr, dn, wm)).1) (by rw [← hq]; rfl) ?_)
        exact W.zret hx hb hr (tl_bi_nar _) (fun t9 ht9 _ => tl_endI hS (by rw [← hq]; exact ⟨r9, hP⟩) ht9) hS.2.2 d_D_writeTilesFor_26
