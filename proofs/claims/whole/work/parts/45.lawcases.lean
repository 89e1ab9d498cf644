set_option maxHeartbeats 4000000 in
set_option maxRecDepth 100000 in
theorem law_case_0 {p : Program} {l : Launch} {e : Env} {s : State} {m : MethodId} {below : List Frame} {meth : Method} {c : Code} {Q : State → Prop} {b L : Nat} {xs : Nat → Int32} {D : va_G} {cJ cI cG cZ : ClassId} {ad bd : Nat → Nat} (C1 : tl_Law p s m meth c b L xs D cJ cI cG cZ ad bd) (hL : L ≤ 3584) {k : Nat} (hk7 : 7 * k + 7 ≤ L) {S : tl_S} {ls : Array Slot} {H : Heap} {locs : List Loc} (hl : lv_has ls 4 [(3, .int (nI (7 * k))), (0, .ref b), (1, .ref (ad 0)), (2, .ref (bd 0))]) (hS : va_S (fun q => s.heap.size ≤ q) s.heap H locs) (hX : tl_X D cJ cI cG ad S H) (hY : tl_Y D cJ cI cZ bd S H) (hlat : tl_lat S ≤ k) (kk : ∀ (ls1 : Array Slot) (H1 : Heap) (locs1 : List Loc) (S1 : tl_S), lv_has ls1 4 [(3, .int (nI (7 * k))), (0, .ref b), (1, .ref (ad 0)), (2, .ref (bd 0))] → va_S (fun q => s.heap.size ≤ q) s.heap H1 locs1 → tl_X D cJ cI cG ad S1 H1 → tl_Y D cJ cI cZ bd S1 H1 → tl_lat S1 ≤ k + 1 → W p l e room_1 s m #[Value.ref b] below meth c H1 locs1 600000 7302250 Q (F0 m 867 ls1 [])) : W p l e room_1 s m #[Value.ref b] below meth c H locs 600000 7302250 Q (F0 m 128 ls []) := by
  obtain ⟨hx, hb, hml, hown, hw, hXs, hbl, hE, hapA, hapB, hdj, hinA, hinB⟩ := C1
  obtain ⟨E, nf, T, Lh, sz, rt, dn, wm, cr, Lp, ol, O⟩ := S
  have hlat0 : Lh ≤ k := hlat
  refine lv_aload_n hx hb d_L_law_128 rfl (lv_at hl 2 rfl) ?_
  refine lv_aload_n hx hb d_L_law_129 rfl (lv_at hl 1 rfl) ?_
  refine lv_iload_n hx hb d_L_law_130 rfl (lv_at hl 0 rfl) ?_
  refine lv_iconst (v := (nI (1))) hx hb d_L_law_131 (by decide) ?_
  refine lv_iadd hx hb d_L_law_132 ?_
  refine lv_topi (nm_r (e' := (nI ((7 * k) + 1))) (nI_add _ _) ?_)
  refine tl_sld (a := ((7 * k) + 1)) hx hb hXs hbl hS (by omega) hL d_L_law_133 ?_
  refine lv_i2l (v := ((xs ((7 * k) + 1)).toInt64)) hx hb d_L_law_134 rfl ?_
  refine lv_bipush (v := (nI (32))) hx hb d_L_law_135 (by decide) ?_
  refine lv_lshl (v := (((xs ((7 * k) + 1)).toInt64) <<< ((nI (32)).toInt64 &&& 63))) hx hb d_L_law_137 rfl ?_
  refine lv_aload_n hx hb d_L_law_138 rfl (lv_at hl 1 rfl) ?_
  refine lv_iload_n hx hb d_L_law_139 rfl (lv_at hl 0 rfl) ?_
  refine lv_iconst (v := (nI (2))) hx hb d_L_law_140 (by decide) ?_
  refine lv_iadd hx hb d_L_law_141 ?_
  refine lv_topi (nm_r (e' := (nI ((7 * k) + 2))) (nI_add _ _) ?_)
  refine tl_sld (a := ((7 * k) + 2)) hx hb hXs hbl hS (by omega) hL d_L_law_142 ?_
  refine lv_i2l (v := ((xs ((7 * k) + 2)).toInt64)) hx hb d_L_law_143 rfl ?_
  refine lv_ldc2 (v := 4294967295) hx hb hown (hw _ tl_m352) d_L_law_144 ?_
  refine lv_land hx hb d_L_law_147 ?_
  refine lv_lor hx hb d_L_law_148 ?_
  refine lv_topl (nm_r (e' := (tl_lg (xs ((7 * k) + 1)) (xs ((7 * k) + 2)))) (rfl) ?_)
  have hX0 := hX
  obtain ⟨hn, hs, pf, pl, r8, hH, hP⟩ := hX
  refine tl_doI (v := ((tl_append (tl_lg (xs ((7 * k) + 1)) (xs ((7 * k) + 2))) (E, nf, T, Lh, sz, rt, dn, wm, cr, Lp, ol, O)).1)) (va_runV (As := [.long (tl_lg (xs ((7 * k) + 1)) (xs ((7 * k) + 2)))]) (rest := []) ⟨hx, hb, hml, hown, hw⟩ (c_T_append l D cJ cI cG cZ ad E nf T hn hs rt dn wm cr pf pl O ol r8 Lh sz Lp (tl_lg (xs ((7 * k) + 1)) (xs ((7 * k) + 2))) hapA hH) (⟨tl_cB hw tl_m40 tl_m1 tl_m37 dd_T_append rfl rfl ⟨Nat.le_of_ble_eq_true rfl, Nat.le_of_ble_eq_true rfl⟩, hw _ tl_m38, hw _ tl_m39⟩) (tl_preV hE hP (va_recv (q0 := 0) (ci := 0) (q := (R_T, F_T, 5)) hE.1 hP rfl rfl)) rfl rfl hl.1 rfl (lv_room (Nat.le_of_ble_eq_true rfl)) d_L_law_149 ⟨Nat.le_of_ble_eq_true rfl, Nat.le_of_ble_eq_true rfl⟩) hS hinA (fun H1 locs1 hX1 hS1 hk1 => ?_)
  have hY1 := tl_Y_kept hY hdj hk1
  clear hX0 hP hH hS hk1 hY
  have hX : tl_X D cJ cI cG ad (tl_append (tl_lg (xs ((7 * k) + 1)) (xs ((7 * k) + 2))) (E, nf, T, Lh, sz, rt, dn, wm, cr, Lp, ol, O)).2 H1 := hX1
  have hY := hY1
  have hS := hS1
  clear hX1 hY1 hS1
  refine lv_aload_n hx hb d_L_law_152 rfl (lv_at hl 3 rfl) ?_
  refine lv_aload_n hx hb d_L_law_153 rfl (lv_at hl 1 rfl) ?_
  refine lv_iload_n hx hb d_L_law_154 rfl (lv_at hl 0 rfl) ?_
  refine lv_iconst (v := (nI (1))) hx hb d_L_law_155 (by decide) ?_
  refine lv_iadd hx hb d_L_law_156 ?_
  refine lv_topi (nm_r (e' := (nI ((7 * k) + 1))) (nI_add _ _) ?_)
  refine tl_sld (a := ((7 * k) + 1)) hx hb hXs hbl hS (by omega) hL d_L_law_157 ?_
  refine lv_i2l (v := ((xs ((7 * k) + 1)).toInt64)) hx hb d_L_law_158 rfl ?_
  refine lv_bipush (v := (nI (32))) hx hb d_L_law_159 (by decide) ?_
  refine lv_lshl (v := (((xs ((7 * k) + 1)).toInt64) <<< ((nI (32)).toInt64 &&& 63))) hx hb d_L_law_161 rfl ?_
  refine lv_aload_n hx hb d_L_law_162 rfl (lv_at hl 1 rfl) ?_
  refine lv_iload_n hx hb d_L_law_163 rfl (lv_at hl 0 rfl) ?_
  refine lv_iconst (v := (nI (2))) hx hb d_L_law_164 (by decide) ?_
  refine lv_iadd hx hb d_L_law_165 ?_
  refine lv_topi (nm_r (e' := (nI ((7 * k) + 2))) (nI_add _ _) ?_)
  refine tl_sld (a := ((7 * k) + 2)) hx hb hXs hbl hS (by omega) hL d_L_law_166 ?_
  refine lv_i2l (v := ((xs ((7 * k) + 2)).toInt64)) hx hb d_L_law_167 rfl ?_
  refine lv_ldc2 (v := 4294967295) hx hb hown (hw _ tl_m352) d_L_law_168 ?_
  refine lv_land hx hb d_L_law_171 ?_
  refine lv_lor hx hb d_L_law_172 ?_
  refine lv_topl (nm_r (e' := (tl_lg (xs ((7 * k) + 1)) (xs ((7 * k) + 2)))) (rfl) ?_)
  have hY0 := hY
  obtain ⟨tf2, hn2, hs2, cd2, pf2, pl2, rw2, rl2, wh2, th2, hG, hP2⟩ := hY
  refine tl_doI (v := ((tl_append (tl_lg (xs ((7 * k) + 1)) (xs ((7 * k) + 2))) (E, nf, T, Lh, sz, rt, dn, wm, cr, Lp, ol, O)).1)) (va_runV (As := [.long (tl_lg (xs ((7 * k) + 1)) (xs ((7 * k) + 2)))]) (rest := [.int ((tl_append (tl_lg (xs ((7 * k) + 1)) (xs ((7 * k) + 2))) (E, nf, T, Lh, sz, rt, dn, wm, cr, Lp, ol, O)).1)]) ⟨hx, hb, hml, hown, hw⟩ (c_M_append l D cJ cI cG cZ bd E nf tf2 hn2 hs2 rt dn wm cr cd2 pf2 pl2 O ol rw2 rl2 wh2 th2 Lh sz Lp T (tl_lg (xs ((7 * k) + 1)) (xs ((7 * k) + 2))) hapB hG) (⟨tl_cB hw tl_m222 tl_m3 tl_m219 dd_M_append rfl rfl ⟨Nat.le_of_ble_eq_true rfl, Nat.le_of_ble_eq_true rfl⟩, hw _ tl_m220, hw _ tl_m221⟩) (tl_preV hE hP2 (va_recv (q0 := 0) (ci := 2) (q := (R_M, F_M, 18)) hE.1 hP2 rfl rfl)) rfl rfl hl.1 rfl (lv_room (Nat.le_of_ble_eq_true rfl)) d_L_law_173 ⟨Nat.le_of_ble_eq_true rfl, Nat.le_of_ble_eq_true rfl⟩) hS hinB (fun H2 locs2 hY2 hS2 hk2 => ?_)
  have hX2 := tl_X_kept hX hdj hk2
  clear hX hS hk2
  have hX := hX2
  have hY : tl_Y D cJ cI cZ bd (tl_append (tl_lg (xs ((7 * k) + 1)) (xs ((7 * k) + 2))) (E, nf, T, Lh, sz, rt, dn, wm, cr, Lp, ol, O)).2 H2 := hY2
  have hS := hS2
  refine lv_icmp_eq (tgt := 867) hx hb d_L_law_176 (by decide) (fun _ => ?_) (fun h => absurd rfl h)
  exact kk ls _ _ _ hl hS hX hY (Nat.le_trans (tl_lat_append (tl_lg (xs ((7 * k) + 1)) (xs ((7 * k) + 2))) (E, nf, T, Lh, sz, rt, dn, wm, cr, Lp, ol, O)) (Nat.succ_le_succ hlat))

set_option maxHeartbeats 4000000 in
set_option maxRecDepth 100000 in
theorem law_case_1 {p : Program} {l : Launch} {e : Env} {s : State} {m : MethodId} {below : List Frame} {meth : Method} {c : Code} {Q : State → Prop} {b L : Nat} {xs : Nat → Int32} {D : va_G} {cJ cI cG cZ : ClassId} {ad bd : Nat → Nat} (C1 : tl_Law p s m meth c b L xs D cJ cI cG cZ ad bd) (hL : L ≤ 3584) {k : Nat} (hk7 : 7 * k + 7 ≤ L) {S : tl_S} {ls : Array Slot} {H : Heap} {locs : List Loc} (hl : lv_has ls 4 [(3, .int (nI (7 * k))), (0, .ref b), (1, .ref (ad 0)), (2, .ref (bd 0))]) (hS : va_S (fun q => s.heap.size ≤ q) s.heap H locs) (hX : tl_X D cJ cI cG ad S H) (hY : tl_Y D cJ cI cZ bd S H) (hlat : tl_lat S ≤ k) (kk : ∀ (ls1 : Array Slot) (H1 : Heap) (locs1 : List Loc) (S1 : tl_S), lv_has ls1 4 [(3, .int (nI (7 * k))), (0, .ref b), (1, .ref (ad 0)), (2, .ref (bd 0))] → va_S (fun q => s.heap.size ≤ q) s.heap H1 locs1 → tl_X D cJ cI cG ad S1 H1 → tl_Y D cJ cI cZ bd S1 H1 → tl_lat S1 ≤ k + 1 → W p l e room_1 s m #[Value.ref b] below meth c H1 locs1 600000 7302250 Q (F0 m 867 ls1 [])) : W p l e room_1 s m #[Value.ref b] below meth c H locs 600000 7302250 Q (F0 m 181 ls []) := by
  obtain ⟨hx, hb, hml, hown, hw, hXs, hbl, hE, hapA, hapB, hdj, hinA, hinB⟩ := C1
  obtain ⟨E, nf, T, Lh, sz, rt, dn, wm, cr, Lp, ol, O⟩ := S
  have hlat0 : Lh ≤ k := hlat
  refine lv_aload_n hx hb d_L_law_181 rfl (lv_at hl 2 rfl) ?_
  have hX0 := hX
  obtain ⟨hn, hs, pf, pl, r8, hH, hP⟩ := hX
  refine tl_doI (v := ((tl_publish  (E, nf, T, Lh, sz, rt, dn, wm, cr, Lp, ol, O)).1)) (va_runV (As := []) (rest := []) ⟨hx, hb, hml, hown, hw⟩ (c_T_publish l D cJ cI cG cZ ad E nf T hn hs rt dn wm cr pf pl O ol r8 Lh sz Lp  hapA hH (by omega)) (⟨tl_cB hw tl_m49 tl_m1 tl_m46 dd_T_publish rfl rfl ⟨Nat.le_of_ble_eq_true rfl, Nat.le_of_ble_eq_true rfl⟩, hw _ tl_m47, hw _ tl_m48⟩) (tl_preV hE hP (va_recv (q0 := 0) (ci := 0) (q := (R_T, F_T, 5)) hE.1 hP rfl rfl)) rfl rfl hl.1 rfl (lv_room (Nat.le_of_ble_eq_true rfl)) d_L_law_182 ⟨Nat.le_of_ble_eq_true rfl, Nat.le_of_ble_eq_true rfl⟩) hS hinA (fun H1 locs1 hX1 hS1 hk1 => ?_)
  have hY1 := tl_Y_kept hY hdj hk1
  clear hX0 hP hH hS hk1 hY
  have hX : tl_X D cJ cI cG ad (tl_publish  (E, nf, T, Lh, sz, rt, dn, wm, cr, Lp, ol, O)).2 H1 := hX1
  have hY := hY1
  have hS := hS1
  clear hX1 hY1 hS1
  refine lv_aload_n hx hb d_L_law_185 rfl (lv_at hl 3 rfl) ?_
  have hY0 := hY
  obtain ⟨tf2, hn2, hs2, cd2, pf2, pl2, rw2, rl2, wh2, th2, hG, hP2⟩ := hY
  refine tl_doI (v := ((tl_publish  (E, nf, T, Lh, sz, rt, dn, wm, cr, Lp, ol, O)).1)) (va_runV (As := []) (rest := [.int ((tl_publish  (E, nf, T, Lh, sz, rt, dn, wm, cr, Lp, ol, O)).1)]) ⟨hx, hb, hml, hown, hw⟩ (c_M_publish l D cJ cI cG cZ bd E nf tf2 hn2 hs2 rt dn wm cr cd2 pf2 pl2 O ol rw2 rl2 wh2 th2 Lh sz Lp T  hapB hG (by omega)) (⟨tl_cB hw tl_m229 tl_m3 tl_m226 dd_M_publish rfl rfl ⟨Nat.le_of_ble_eq_true rfl, Nat.le_of_ble_eq_true rfl⟩, hw _ tl_m227, hw _ tl_m228⟩) (tl_preV hE hP2 (va_recv (q0 := 0) (ci := 2) (q := (R_M, F_M, 18)) hE.1 hP2 rfl rfl)) rfl rfl hl.1 rfl (lv_room (Nat.le_of_ble_eq_true rfl)) d_L_law_186 ⟨Nat.le_of_ble_eq_true rfl, Nat.le_of_ble_eq_true rfl⟩) hS hinB (fun H2 locs2 hY2 hS2 hk2 => ?_)
  have hX2 := tl_X_kept hX hdj hk2
  clear hX hS hk2
  have hX := hX2
  have hY : tl_Y D cJ cI cZ bd (tl_publish  (E, nf, T, Lh, sz, rt, dn, wm, cr, Lp, ol, O)).2 H2 := hY2
  have hS := hS2
  refine lv_icmp_eq (tgt := 867) hx hb d_L_law_189 (by decide) (fun _ => ?_) (fun h => absurd rfl h)
  exact kk ls _ _ _ hl hS hX hY (Nat.le_trans (tl_lat_publish  (E, nf, T, Lh, sz, rt, dn, wm, cr, Lp, ol, O)) (Nat.succ_le_succ hlat))

set_option maxHeartbeats 4000000 in
set_option maxRecDepth 100000 in
theorem law_case_2 {p : Program} {l : Launch} {e : Env} {s : State} {m : MethodId} {below : List Frame} {meth : Method} {c : Code} {Q : State → Prop} {b L : Nat} {xs : Nat → Int32} {D : va_G} {cJ cI cG cZ : ClassId} {ad bd : Nat → Nat} (C1 : tl_Law p s m meth c b L xs D cJ cI cG cZ ad bd) (hL : L ≤ 3584) {k : Nat} (hk7 : 7 * k + 7 ≤ L) {S : tl_S} {ls : Array Slot} {H : Heap} {locs : List Loc} (hl : lv_has ls 4 [(3, .int (nI (7 * k))), (0, .ref b), (1, .ref (ad 0)), (2, .ref (bd 0))]) (hS : va_S (fun q => s.heap.size ≤ q) s.heap H locs) (hX : tl_X D cJ cI cG ad S H) (hY : tl_Y D cJ cI cZ bd S H) (hlat : tl_lat S ≤ k) (kk : ∀ (ls1 : Array Slot) (H1 : Heap) (locs1 : List Loc) (S1 : tl_S), lv_has ls1 4 [(3, .int (nI (7 * k))), (0, .ref b), (1, .ref (ad 0)), (2, .ref (bd 0))] → va_S (fun q => s.heap.size ≤ q) s.heap H1 locs1 → tl_X D cJ cI cG ad S1 H1 → tl_Y D cJ cI cZ bd S1 H1 → tl_lat S1 ≤ k + 1 → W p l e room_1 s m #[Value.ref b] below meth c H1 locs1 600000 7302250 Q (F0 m 867 ls1 [])) : W p l e room_1 s m #[Value.ref b] below meth c H locs 600000 7302250 Q (F0 m 194 ls []) := by
  obtain ⟨hx, hb, hml, hown, hw, hXs, hbl, hE, hapA, hapB, hdj, hinA, hinB⟩ := C1
  obtain ⟨E, nf, T, Lh, sz, rt, dn, wm, cr, Lp, ol, O⟩ := S
  have hlat0 : Lh ≤ k := hlat
  refine lv_aload_n hx hb d_L_law_194 rfl (lv_at hl 2 rfl) ?_
  refine lv_aload_n hx hb d_L_law_195 rfl (lv_at hl 1 rfl) ?_
  refine lv_iload_n hx hb d_L_law_196 rfl (lv_at hl 0 rfl) ?_
  refine lv_iconst (v := (nI (1))) hx hb d_L_law_197 (by decide) ?_
  refine lv_iadd hx hb d_L_law_198 ?_
  refine lv_topi (nm_r (e' := (nI ((7 * k) + 1))) (nI_add _ _) ?_)
  refine tl_sld (a := ((7 * k) + 1)) hx hb hXs hbl hS (by omega) hL d_L_law_199 ?_
  have hX0 := hX
  obtain ⟨hn, hs, pf, pl, r8, hH, hP⟩ := hX
  refine tl_doI (v := ((tl_order (xs ((7 * k) + 1)) (E, nf, T, Lh, sz, rt, dn, wm, cr, Lp, ol, O)).1)) (va_runV (As := [.int (xs ((7 * k) + 1))]) (rest := []) ⟨hx, hb, hml, hown, hw⟩ (c_T_order l D cJ cI cG cZ ad E nf T hn hs rt dn wm cr pf pl O ol r8 Lh sz Lp (xs ((7 * k) + 1)) hapA hH) (⟨tl_cB hw tl_m98 tl_m1 tl_m95 dd_T_order rfl rfl ⟨Nat.le_of_ble_eq_true rfl, Nat.le_of_ble_eq_true rfl⟩, hw _ tl_m96, hw _ tl_m97⟩) (tl_preV hE hP (va_recv (q0 := 0) (ci := 0) (q := (R_T, F_T, 5)) hE.1 hP rfl rfl)) rfl rfl hl.1 rfl (lv_room (Nat.le_of_ble_eq_true rfl)) d_L_law_200 ⟨Nat.le_of_ble_eq_true rfl, Nat.le_of_ble_eq_true rfl⟩) hS hinA (fun H1 locs1 hX1 hS1 hk1 => ?_)
  have hY1 := tl_Y_kept hY hdj hk1
  clear hX0 hP hH hS hk1 hY
  have hX : tl_X D cJ cI cG ad (tl_order (xs ((7 * k) + 1)) (E, nf, T, Lh, sz, rt, dn, wm, cr, Lp, ol, O)).2 H1 := hX1
  have hY := hY1
  have hS := hS1
  clear hX1 hY1 hS1
  refine lv_aload_n hx hb d_L_law_203 rfl (lv_at hl 3 rfl) ?_
  refine lv_aload_n hx hb d_L_law_204 rfl (lv_at hl 1 rfl) ?_
  refine lv_iload_n hx hb d_L_law_205 rfl (lv_at hl 0 rfl) ?_
  refine lv_iconst (v := (nI (1))) hx hb d_L_law_206 (by decide) ?_
  refine lv_iadd hx hb d_L_law_207 ?_
  refine lv_topi (nm_r (e' := (nI ((7 * k) + 1))) (nI_add _ _) ?_)
  refine tl_sld (a := ((7 * k) + 1)) hx hb hXs hbl hS (by omega) hL d_L_law_208 ?_
  have hY0 := hY
  obtain ⟨tf2, hn2, hs2, cd2, pf2, pl2, rw2, rl2, wh2, th2, hG, hP2⟩ := hY
  refine tl_doI (v := ((tl_order (xs ((7 * k) + 1)) (E, nf, T, Lh, sz, rt, dn, wm, cr, Lp, ol, O)).1)) (va_runV (As := [.int (xs ((7 * k) + 1))]) (rest := [.int ((tl_order (xs ((7 * k) + 1)) (E, nf, T, Lh, sz, rt, dn, wm, cr, Lp, ol, O)).1)]) ⟨hx, hb, hml, hown, hw⟩ (c_M_order l D cJ cI cG cZ bd E nf tf2 hn2 hs2 rt dn wm cr cd2 pf2 pl2 O ol rw2 rl2 wh2 th2 Lh sz Lp T (xs ((7 * k) + 1)) hapB hG) (⟨tl_cB hw tl_m264 tl_m3 tl_m261 dd_M_order rfl rfl ⟨Nat.le_of_ble_eq_true rfl, Nat.le_of_ble_eq_true rfl⟩, hw _ tl_m262, hw _ tl_m263⟩) (tl_preV hE hP2 (va_recv (q0 := 0) (ci := 2) (q := (R_M, F_M, 18)) hE.1 hP2 rfl rfl)) rfl rfl hl.1 rfl (lv_room (Nat.le_of_ble_eq_true rfl)) d_L_law_209 ⟨Nat.le_of_ble_eq_true rfl, Nat.le_of_ble_eq_true rfl⟩) hS hinB (fun H2 locs2 hY2 hS2 hk2 => ?_)
  have hX2 := tl_X_kept hX hdj hk2
  clear hX hS hk2
  have hX := hX2
  have hY : tl_Y D cJ cI cZ bd (tl_order (xs ((7 * k) + 1)) (E, nf, T, Lh, sz, rt, dn, wm, cr, Lp, ol, O)).2 H2 := hY2
  have hS := hS2
  refine lv_icmp_eq (tgt := 867) hx hb d_L_law_212 (by decide) (fun _ => ?_) (fun h => absurd rfl h)
  exact kk ls _ _ _ hl hS hX hY (Nat.le_trans (tl_lat_order (xs ((7 * k) + 1)) (E, nf, T, Lh, sz, rt, dn, wm, cr, Lp, ol, O)) (Nat.succ_le_succ hlat))

set_option maxHeartbeats 4000000 in
set_option maxRecDepth 100000 in
theorem law_case_3 {p : Program} {l : Launch} {e : Env} {s : State} {m : MethodId} {below : List Frame} {meth : Method} {c : Code} {Q : State → Prop} {b L : Nat} {xs : Nat → Int32} {D : va_G} {cJ cI cG cZ : ClassId} {ad bd : Nat → Nat} (C1 : tl_Law p s m meth c b L xs D cJ cI cG cZ ad bd) (hL : L ≤ 3584) {k : Nat} (hk7 : 7 * k + 7 ≤ L) {S : tl_S} {ls : Array Slot} {H : Heap} {locs : List Loc} (hl : lv_has ls 4 [(3, .int (nI (7 * k))), (0, .ref b), (1, .ref (ad 0)), (2, .ref (bd 0))]) (hS : va_S (fun q => s.heap.size ≤ q) s.heap H locs) (hX : tl_X D cJ cI cG ad S H) (hY : tl_Y D cJ cI cZ bd S H) (hlat : tl_lat S ≤ k) (kk : ∀ (ls1 : Array Slot) (H1 : Heap) (locs1 : List Loc) (S1 : tl_S), lv_has ls1 4 [(3, .int (nI (7 * k))), (0, .ref b), (1, .ref (ad 0)), (2, .ref (bd 0))] → va_S (fun q => s.heap.size ≤ q) s.heap H1 locs1 → tl_X D cJ cI cG ad S1 H1 → tl_Y D cJ cI cZ bd S1 H1 → tl_lat S1 ≤ k + 1 → W p l e room_1 s m #[Value.ref b] below meth c H1 locs1 600000 7302250 Q (F0 m 867 ls1 [])) : W p l e room_1 s m #[Value.ref b] below meth c H locs 600000 7302250 Q (F0 m 217 ls []) := by
  obtain ⟨hx, hb, hml, hown, hw, hXs, hbl, hE, hapA, hapB, hdj, hinA, hinB⟩ := C1
  obtain ⟨E, nf, T, Lh, sz, rt, dn, wm, cr, Lp, ol, O⟩ := S
  have hlat0 : Lh ≤ k := hlat
  refine lv_aload_n hx hb d_L_law_217 rfl (lv_at hl 2 rfl) ?_
  have hX0 := hX
  obtain ⟨hn, hs, pf, pl, r8, hH, hP⟩ := hX
  refine tl_doI (v := ((tl_recover  (E, nf, T, Lh, sz, rt, dn, wm, cr, Lp, ol, O)).1)) (va_runV (As := []) (rest := []) ⟨hx, hb, hml, hown, hw⟩ (c_T_recover l D cJ cI cG cZ ad E nf T hn hs rt dn wm cr pf pl O ol r8 Lh sz Lp  hapA hH) (⟨tl_cB hw tl_m102 tl_m1 tl_m99 dd_T_recover rfl rfl ⟨Nat.le_of_ble_eq_true rfl, Nat.le_of_ble_eq_true rfl⟩, hw _ tl_m100, hw _ tl_m101⟩) (tl_preV hE hP (va_recv (q0 := 0) (ci := 0) (q := (R_T, F_T, 5)) hE.1 hP rfl rfl)) rfl rfl hl.1 rfl (lv_room (Nat.le_of_ble_eq_true rfl)) d_L_law_218 ⟨Nat.le_of_ble_eq_true rfl, Nat.le_of_ble_eq_true rfl⟩) hS hinA (fun H1 locs1 hX1 hS1 hk1 => ?_)
  have hY1 := tl_Y_kept hY hdj hk1
  clear hX0 hP hH hS hk1 hY
  have hX : tl_X D cJ cI cG ad (tl_recover  (E, nf, T, Lh, sz, rt, dn, wm, cr, Lp, ol, O)).2 H1 := hX1
  have hY := hY1
  have hS := hS1
  clear hX1 hY1 hS1
  refine lv_aload_n hx hb d_L_law_221 rfl (lv_at hl 3 rfl) ?_
  have hY0 := hY
  obtain ⟨tf2, hn2, hs2, cd2, pf2, pl2, rw2, rl2, wh2, th2, hG, hP2⟩ := hY
  refine tl_doI (v := ((tl_recover  (E, nf, T, Lh, sz, rt, dn, wm, cr, Lp, ol, O)).1)) (va_runV (As := []) (rest := [.int ((tl_recover  (E, nf, T, Lh, sz, rt, dn, wm, cr, Lp, ol, O)).1)]) ⟨hx, hb, hml, hown, hw⟩ (c_M_recover l D cJ cI cG cZ bd E nf tf2 hn2 hs2 rt dn wm cr cd2 pf2 pl2 O ol rw2 rl2 wh2 th2 Lh sz Lp T  hapB hG) (⟨tl_cB hw tl_m268 tl_m3 tl_m265 dd_M_recover rfl rfl ⟨Nat.le_of_ble_eq_true rfl, Nat.le_of_ble_eq_true rfl⟩, hw _ tl_m266, hw _ tl_m267⟩) (tl_preV hE hP2 (va_recv (q0 := 0) (ci := 2) (q := (R_M, F_M, 18)) hE.1 hP2 rfl rfl)) rfl rfl hl.1 rfl (lv_room (Nat.le_of_ble_eq_true rfl)) d_L_law_222 ⟨Nat.le_of_ble_eq_true rfl, Nat.le_of_ble_eq_true rfl⟩) hS hinB (fun H2 locs2 hY2 hS2 hk2 => ?_)
  have hX2 := tl_X_kept hX hdj hk2
  clear hX hS hk2
  have hX := hX2
  have hY : tl_Y D cJ cI cZ bd (tl_recover  (E, nf, T, Lh, sz, rt, dn, wm, cr, Lp, ol, O)).2 H2 := hY2
  have hS := hS2
  refine lv_icmp_eq (tgt := 867) hx hb d_L_law_225 (by decide) (fun _ => ?_) (fun h => absurd rfl h)
  exact kk ls _ _ _ hl hS hX hY (Nat.le_trans (tl_lat_recover  (E, nf, T, Lh, sz, rt, dn, wm, cr, Lp, ol, O)) (Nat.succ_le_succ hlat))

set_option maxHeartbeats 4000000 in
set_option maxRecDepth 100000 in
theorem law_case_4 {p : Program} {l : Launch} {e : Env} {s : State} {m : MethodId} {below : List Frame} {meth : Method} {c : Code} {Q : State → Prop} {b L : Nat} {xs : Nat → Int32} {D : va_G} {cJ cI cG cZ : ClassId} {ad bd : Nat → Nat} (C1 : tl_Law p s m meth c b L xs D cJ cI cG cZ ad bd) (hL : L ≤ 3584) {k : Nat} (hk7 : 7 * k + 7 ≤ L) {S : tl_S} {ls : Array Slot} {H : Heap} {locs : List Loc} (hl : lv_has ls 4 [(3, .int (nI (7 * k))), (0, .ref b), (1, .ref (ad 0)), (2, .ref (bd 0))]) (hS : va_S (fun q => s.heap.size ≤ q) s.heap H locs) (hX : tl_X D cJ cI cG ad S H) (hY : tl_Y D cJ cI cZ bd S H) (hlat : tl_lat S ≤ k) (kk : ∀ (ls1 : Array Slot) (H1 : Heap) (locs1 : List Loc) (S1 : tl_S), lv_has ls1 4 [(3, .int (nI (7 * k))), (0, .ref b), (1, .ref (ad 0)), (2, .ref (bd 0))] → va_S (fun q => s.heap.size ≤ q) s.heap H1 locs1 → tl_X D cJ cI cG ad S1 H1 → tl_Y D cJ cI cZ bd S1 H1 → tl_lat S1 ≤ k + 1 → W p l e room_1 s m #[Value.ref b] below meth c H1 locs1 600000 7302250 Q (F0 m 867 ls1 [])) : W p l e room_1 s m #[Value.ref b] below meth c H locs 600000 7302250 Q (F0 m 230 ls []) := by
  obtain ⟨hx, hb, hml, hown, hw, hXs, hbl, hE, hapA, hapB, hdj, hinA, hinB⟩ := C1
  obtain ⟨E, nf, T, Lh, sz, rt, dn, wm, cr, Lp, ol, O⟩ := S
  have hlat0 : Lh ≤ k := hlat
  refine lv_aload_n hx hb d_L_law_230 rfl (lv_at hl 2 rfl) ?_
  have hX0 := hX
  obtain ⟨hn, hs, pf, pl, r8, hH, hP⟩ := hX
  refine tl_goI (v := (wm)) (va_runV (As := []) (rest := []) ⟨hx, hb, hml, hown, hw⟩ (c_T_writes l D cJ cI cG cZ ad E nf T hn hs rt dn wm cr pf pl O ol r8 Lh sz Lp   hH) (⟨tl_cB hw tl_m106 tl_m1 tl_m103 dd_T_writes rfl rfl ⟨Nat.le_of_ble_eq_true rfl, Nat.le_of_ble_eq_true rfl⟩, hw _ tl_m104, hw _ tl_m105⟩) (tl_preV hE hP (va_recv (q0 := 0) (ci := 0) (q := (R_T, F_T, 5)) hE.1 hP rfl rfl)) rfl rfl hl.1 rfl (lv_room (Nat.le_of_ble_eq_true rfl)) d_L_law_231 ⟨Nat.le_of_ble_eq_true rfl, Nat.le_of_ble_eq_true rfl⟩) ?_
  have hX := hX0
  refine lv_aload_n hx hb d_L_law_234 rfl (lv_at hl 3 rfl) ?_
  have hY0 := hY
  obtain ⟨tf2, hn2, hs2, cd2, pf2, pl2, rw2, rl2, wh2, th2, hG, hP2⟩ := hY
  refine tl_goI (v := (wm)) (va_runV (As := []) (rest := [.int (wm)]) ⟨hx, hb, hml, hown, hw⟩ (c_M_writes l D cJ cI cG cZ bd E nf tf2 hn2 hs2 rt dn wm cr cd2 pf2 pl2 O ol rw2 rl2 wh2 th2 Lh sz Lp T   hG) (⟨tl_cB hw tl_m272 tl_m3 tl_m269 dd_M_writes rfl rfl ⟨Nat.le_of_ble_eq_true rfl, Nat.le_of_ble_eq_true rfl⟩, hw _ tl_m270, hw _ tl_m271⟩) (tl_preV hE hP2 (va_recv (q0 := 0) (ci := 2) (q := (R_M, F_M, 18)) hE.1 hP2 rfl rfl)) rfl rfl hl.1 rfl (lv_room (Nat.le_of_ble_eq_true rfl)) d_L_law_235 ⟨Nat.le_of_ble_eq_true rfl, Nat.le_of_ble_eq_true rfl⟩) ?_
  have hY := hY0
  refine lv_icmp_eq (tgt := 867) hx hb d_L_law_238 (by decide) (fun _ => ?_) (fun h => absurd rfl h)
  exact kk ls _ _ _ hl hS hX hY (Nat.le_succ_of_le hlat)

set_option maxHeartbeats 4000000 in
set_option maxRecDepth 100000 in
theorem law_case_5 {p : Program} {l : Launch} {e : Env} {s : State} {m : MethodId} {below : List Frame} {meth : Method} {c : Code} {Q : State → Prop} {b L : Nat} {xs : Nat → Int32} {D : va_G} {cJ cI cG cZ : ClassId} {ad bd : Nat → Nat} (C1 : tl_Law p s m meth c b L xs D cJ cI cG cZ ad bd) (hL : L ≤ 3584) {k : Nat} (hk7 : 7 * k + 7 ≤ L) {S : tl_S} {ls : Array Slot} {H : Heap} {locs : List Loc} (hl : lv_has ls 4 [(3, .int (nI (7 * k))), (0, .ref b), (1, .ref (ad 0)), (2, .ref (bd 0))]) (hS : va_S (fun q => s.heap.size ≤ q) s.heap H locs) (hX : tl_X D cJ cI cG ad S H) (hY : tl_Y D cJ cI cZ bd S H) (hlat : tl_lat S ≤ k) (kk : ∀ (ls1 : Array Slot) (H1 : Heap) (locs1 : List Loc) (S1 : tl_S), lv_has ls1 4 [(3, .int (nI (7 * k))), (0, .ref b), (1, .ref (ad 0)), (2, .ref (bd 0))] → va_S (fun q => s.heap.size ≤ q) s.heap H1 locs1 → tl_X D cJ cI cG ad S1 H1 → tl_Y D cJ cI cZ bd S1 H1 → tl_lat S1 ≤ k + 1 → W p l e room_1 s m #[Value.ref b] below meth c H1 locs1 600000 7302250 Q (F0 m 867 ls1 [])) : W p l e room_1 s m #[Value.ref b] below meth c H locs 600000 7302250 Q (F0 m 243 ls []) := by
  obtain ⟨hx, hb, hml, hown, hw, hXs, hbl, hE, hapA, hapB, hdj, hinA, hinB⟩ := C1
  obtain ⟨E, nf, T, Lh, sz, rt, dn, wm, cr, Lp, ol, O⟩ := S
  have hlat0 : Lh ≤ k := hlat
  refine lv_aload_n hx hb d_L_law_243 rfl (lv_at hl 2 rfl) ?_
  have hX0 := hX
  obtain ⟨hn, hs, pf, pl, r8, hH, hP⟩ := hX
  refine tl_goI (v := (tl_lenA dn nf)) (va_runV (As := []) (rest := []) ⟨hx, hb, hml, hown, hw⟩ (c_T_length l D cJ cI cG cZ ad E nf T hn hs rt dn wm cr pf pl O ol r8 Lh sz Lp   hH) (⟨tl_cB hw tl_m110 tl_m1 tl_m107 dd_T_length rfl rfl ⟨Nat.le_of_ble_eq_true rfl, Nat.le_of_ble_eq_true rfl⟩, hw _ tl_m108, hw _ tl_m109⟩) (tl_preV hE hP (va_recv (q0 := 0) (ci := 0) (q := (R_T, F_T, 5)) hE.1 hP rfl rfl)) rfl rfl hl.1 rfl (lv_room (Nat.le_of_ble_eq_true rfl)) d_L_law_244 ⟨Nat.le_of_ble_eq_true rfl, Nat.le_of_ble_eq_true rfl⟩) ?_
  have hX := hX0
  refine lv_aload_n hx hb d_L_law_247 rfl (lv_at hl 3 rfl) ?_
  have hY0 := hY
  obtain ⟨tf2, hn2, hs2, cd2, pf2, pl2, rw2, rl2, wh2, th2, hG, hP2⟩ := hY
  refine tl_goI (v := (tl_lenA dn nf)) (va_runV (As := []) (rest := [.int (tl_lenA dn nf)]) ⟨hx, hb, hml, hown, hw⟩ (c_M_length l D cJ cI cG cZ bd E nf tf2 hn2 hs2 rt dn wm cr cd2 pf2 pl2 O ol rw2 rl2 wh2 th2 Lh sz Lp T   hG) (⟨tl_cB hw tl_m276 tl_m3 tl_m273 dd_M_length rfl rfl ⟨Nat.le_of_ble_eq_true rfl, Nat.le_of_ble_eq_true rfl⟩, hw _ tl_m274, hw _ tl_m275⟩) (tl_preV hE hP2 (va_recv (q0 := 0) (ci := 2) (q := (R_M, F_M, 18)) hE.1 hP2 rfl rfl)) rfl rfl hl.1 rfl (lv_room (Nat.le_of_ble_eq_true rfl)) d_L_law_248 ⟨Nat.le_of_ble_eq_true rfl, Nat.le_of_ble_eq_true rfl⟩) ?_
  have hY := hY0
  refine lv_icmp_eq (tgt := 867) hx hb d_L_law_251 (by decide) (fun _ => ?_) (fun h => absurd rfl h)
  exact kk ls _ _ _ hl hS hX hY (Nat.le_succ_of_le hlat)

set_option maxHeartbeats 4000000 in
set_option maxRecDepth 100000 in
theorem law_case_6 {p : Program} {l : Launch} {e : Env} {s : State} {m : MethodId} {below : List Frame} {meth : Method} {c : Code} {Q : State → Prop} {b L : Nat} {xs : Nat → Int32} {D : va_G} {cJ cI cG cZ : ClassId} {ad bd : Nat → Nat} (C1 : tl_Law p s m meth c b L xs D cJ cI cG cZ ad bd) (hL : L ≤ 3584) {k : Nat} (hk7 : 7 * k + 7 ≤ L) {S : tl_S} {ls : Array Slot} {H : Heap} {locs : List Loc} (hl : lv_has ls 4 [(3, .int (nI (7 * k))), (0, .ref b), (1, .ref (ad 0)), (2, .ref (bd 0))]) (hS : va_S (fun q => s.heap.size ≤ q) s.heap H locs) (hX : tl_X D cJ cI cG ad S H) (hY : tl_Y D cJ cI cZ bd S H) (hlat : tl_lat S ≤ k) (kk : ∀ (ls1 : Array Slot) (H1 : Heap) (locs1 : List Loc) (S1 : tl_S), lv_has ls1 4 [(3, .int (nI (7 * k))), (0, .ref b), (1, .ref (ad 0)), (2, .ref (bd 0))] → va_S (fun q => s.heap.size ≤ q) s.heap H1 locs1 → tl_X D cJ cI cG ad S1 H1 → tl_Y D cJ cI cZ bd S1 H1 → tl_lat S1 ≤ k + 1 → W p l e room_1 s m #[Value.ref b] below meth c H1 locs1 600000 7302250 Q (F0 m 867 ls1 [])) : W p l e room_1 s m #[Value.ref b] below meth c H locs 600000 7302250 Q (F0 m 256 ls []) := by
  obtain ⟨hx, hb, hml, hown, hw, hXs, hbl, hE, hapA, hapB, hdj, hinA, hinB⟩ := C1
  obtain ⟨E, nf, T, Lh, sz, rt, dn, wm, cr, Lp, ol, O⟩ := S
  have hlat0 : Lh ≤ k := hlat
  refine lv_aload_n hx hb d_L_law_256 rfl (lv_at hl 2 rfl) ?_
  refine lv_aload_n hx hb d_L_law_257 rfl (lv_at hl 1 rfl) ?_
  refine lv_iload_n hx hb d_L_law_258 rfl (lv_at hl 0 rfl) ?_
  refine lv_iconst (v := (nI (1))) hx hb d_L_law_259 (by decide) ?_
  refine lv_iadd hx hb d_L_law_260 ?_
  refine lv_topi (nm_r (e' := (nI ((7 * k) + 1))) (nI_add _ _) ?_)
  refine tl_sld (a := ((7 * k) + 1)) hx hb hXs hbl hS (by omega) hL d_L_law_261 ?_
  have hX0 := hX
  obtain ⟨hn, hs, pf, pl, r8, hH, hP⟩ := hX
  refine tl_goI (v := (tl_szA Lh sz (xs ((7 * k) + 1)))) (va_runV (As := [.int (xs ((7 * k) + 1))]) (rest := []) ⟨hx, hb, hml, hown, hw⟩ (c_T_size l D cJ cI cG cZ ad E nf T hn hs rt dn wm cr pf pl O ol r8 Lh sz Lp (xs ((7 * k) + 1))  hH) (⟨tl_cB hw tl_m114 tl_m1 tl_m111 dd_T_size rfl rfl ⟨Nat.le_of_ble_eq_true rfl, Nat.le_of_ble_eq_true rfl⟩, hw _ tl_m112, hw _ tl_m113⟩) (tl_preV hE hP (va_recv (q0 := 0) (ci := 0) (q := (R_T, F_T, 5)) hE.1 hP rfl rfl)) rfl rfl hl.1 rfl (lv_room (Nat.le_of_ble_eq_true rfl)) d_L_law_262 ⟨Nat.le_of_ble_eq_true rfl, Nat.le_of_ble_eq_true rfl⟩) ?_
  have hX := hX0
  refine lv_aload_n hx hb d_L_law_265 rfl (lv_at hl 3 rfl) ?_
  refine lv_aload_n hx hb d_L_law_266 rfl (lv_at hl 1 rfl) ?_
  refine lv_iload_n hx hb d_L_law_267 rfl (lv_at hl 0 rfl) ?_
  refine lv_iconst (v := (nI (1))) hx hb d_L_law_268 (by decide) ?_
  refine lv_iadd hx hb d_L_law_269 ?_
  refine lv_topi (nm_r (e' := (nI ((7 * k) + 1))) (nI_add _ _) ?_)
  refine tl_sld (a := ((7 * k) + 1)) hx hb hXs hbl hS (by omega) hL d_L_law_270 ?_
  have hY0 := hY
  obtain ⟨tf2, hn2, hs2, cd2, pf2, pl2, rw2, rl2, wh2, th2, hG, hP2⟩ := hY
  refine tl_goI (v := (tl_szA Lh sz (xs ((7 * k) + 1)))) (va_runV (As := [.int (xs ((7 * k) + 1))]) (rest := [.int (tl_szA Lh sz (xs ((7 * k) + 1)))]) ⟨hx, hb, hml, hown, hw⟩ (c_M_size l D cJ cI cG cZ bd E nf tf2 hn2 hs2 rt dn wm cr cd2 pf2 pl2 O ol rw2 rl2 wh2 th2 Lh sz Lp T (xs ((7 * k) + 1))  hG) (⟨tl_cB hw tl_m280 tl_m3 tl_m277 dd_M_size rfl rfl ⟨Nat.le_of_ble_eq_true rfl, Nat.le_of_ble_eq_true rfl⟩, hw _ tl_m278, hw _ tl_m279⟩) (tl_preV hE hP2 (va_recv (q0 := 0) (ci := 2) (q := (R_M, F_M, 18)) hE.1 hP2 rfl rfl)) rfl rfl hl.1 rfl (lv_room (Nat.le_of_ble_eq_true rfl)) d_L_law_271 ⟨Nat.le_of_ble_eq_true rfl, Nat.le_of_ble_eq_true rfl⟩) ?_
  have hY := hY0
  refine lv_icmp_eq (tgt := 867) hx hb d_L_law_274 (by decide) (fun _ => ?_) (fun h => absurd rfl h)
  exact kk ls _ _ _ hl hS hX hY (Nat.le_succ_of_le hlat)

set_option maxHeartbeats 4000000 in
set_option maxRecDepth 100000 in
theorem law_case_7 {p : Program} {l : Launch} {e : Env} {s : State} {m : MethodId} {below : List Frame} {meth : Method} {c : Code} {Q : State → Prop} {b L : Nat} {xs : Nat → Int32} {D : va_G} {cJ cI cG cZ : ClassId} {ad bd : Nat → Nat} (C1 : tl_Law p s m meth c b L xs D cJ cI cG cZ ad bd) (hL : L ≤ 3584) {k : Nat} (hk7 : 7 * k + 7 ≤ L) {S : tl_S} {ls : Array Slot} {H : Heap} {locs : List Loc} (hl : lv_has ls 4 [(3, .int (nI (7 * k))), (0, .ref b), (1, .ref (ad 0)), (2, .ref (bd 0))]) (hS : va_S (fun q => s.heap.size ≤ q) s.heap H locs) (hX : tl_X D cJ cI cG ad S H) (hY : tl_Y D cJ cI cZ bd S H) (hlat : tl_lat S ≤ k) (kk : ∀ (ls1 : Array Slot) (H1 : Heap) (locs1 : List Loc) (S1 : tl_S), lv_has ls1 4 [(3, .int (nI (7 * k))), (0, .ref b), (1, .ref (ad 0)), (2, .ref (bd 0))] → va_S (fun q => s.heap.size ≤ q) s.heap H1 locs1 → tl_X D cJ cI cG ad S1 H1 → tl_Y D cJ cI cZ bd S1 H1 → tl_lat S1 ≤ k + 1 → W p l e room_1 s m #[Value.ref b] below meth c H1 locs1 600000 7302250 Q (F0 m 867 ls1 [])) : W p l e room_1 s m #[Value.ref b] below meth c H locs 600000 7302250 Q (F0 m 279 ls []) := by
  obtain ⟨hx, hb, hml, hown, hw, hXs, hbl, hE, hapA, hapB, hdj, hinA, hinB⟩ := C1
  obtain ⟨E, nf, T, Lh, sz, rt, dn, wm, cr, Lp, ol, O⟩ := S
  have hlat0 : Lh ≤ k := hlat
  refine lv_aload_n hx hb d_L_law_279 rfl (lv_at hl 2 rfl) ?_
  refine lv_aload_n hx hb d_L_law_280 rfl (lv_at hl 1 rfl) ?_
  refine lv_iload_n hx hb d_L_law_281 rfl (lv_at hl 0 rfl) ?_
  refine lv_iconst (v := (nI (1))) hx hb d_L_law_282 (by decide) ?_
  refine lv_iadd hx hb d_L_law_283 ?_
  refine lv_topi (nm_r (e' := (nI ((7 * k) + 1))) (nI_add _ _) ?_)
  refine tl_sld (a := ((7 * k) + 1)) hx hb hXs hbl hS (by omega) hL d_L_law_284 ?_
  have hX0 := hX
  obtain ⟨hn, hs, pf, pl, r8, hH, hP⟩ := hX
  refine tl_goL (v := (tl_rtA Lh rt (xs ((7 * k) + 1)))) (va_runV (As := [.int (xs ((7 * k) + 1))]) (rest := []) ⟨hx, hb, hml, hown, hw⟩ (c_T_root l D cJ cI cG cZ ad E nf T hn hs rt dn wm cr pf pl O ol r8 Lh sz Lp (xs ((7 * k) + 1))  hH) (⟨tl_cB hw tl_m120 tl_m1 tl_m117 dd_T_root rfl rfl ⟨Nat.le_of_ble_eq_true rfl, Nat.le_of_ble_eq_true rfl⟩, hw _ tl_m118, hw _ tl_m119⟩) (tl_preV hE hP (va_recv (q0 := 0) (ci := 0) (q := (R_T, F_T, 5)) hE.1 hP rfl rfl)) rfl rfl hl.1 rfl (lv_room (Nat.le_of_ble_eq_true rfl)) d_L_law_285 ⟨Nat.le_of_ble_eq_true rfl, Nat.le_of_ble_eq_true rfl⟩) ?_
  have hX := hX0
  refine lv_aload_n hx hb d_L_law_288 rfl (lv_at hl 3 rfl) ?_
  refine lv_aload_n hx hb d_L_law_289 rfl (lv_at hl 1 rfl) ?_
  refine lv_iload_n hx hb d_L_law_290 rfl (lv_at hl 0 rfl) ?_
  refine lv_iconst (v := (nI (1))) hx hb d_L_law_291 (by decide) ?_
  refine lv_iadd hx hb d_L_law_292 ?_
  refine lv_topi (nm_r (e' := (nI ((7 * k) + 1))) (nI_add _ _) ?_)
  refine tl_sld (a := ((7 * k) + 1)) hx hb hXs hbl hS (by omega) hL d_L_law_293 ?_
  have hY0 := hY
  obtain ⟨tf2, hn2, hs2, cd2, pf2, pl2, rw2, rl2, wh2, th2, hG, hP2⟩ := hY
  refine tl_goL (v := (tl_rtA Lh rt (xs ((7 * k) + 1)))) (va_runV (As := [.int (xs ((7 * k) + 1))]) (rest := [.long (tl_rtA Lh rt (xs ((7 * k) + 1)))]) ⟨hx, hb, hml, hown, hw⟩ (c_M_root l D cJ cI cG cZ bd E nf tf2 hn2 hs2 rt dn wm cr cd2 pf2 pl2 O ol rw2 rl2 wh2 th2 Lh sz Lp T (xs ((7 * k) + 1))  hG) (⟨tl_cB hw tl_m287 tl_m3 tl_m284 dd_M_root rfl rfl ⟨Nat.le_of_ble_eq_true rfl, Nat.le_of_ble_eq_true rfl⟩, hw _ tl_m285, hw _ tl_m286⟩) (tl_preV hE hP2 (va_recv (q0 := 0) (ci := 2) (q := (R_M, F_M, 18)) hE.1 hP2 rfl rfl)) rfl rfl hl.1 rfl (lv_room (Nat.le_of_ble_eq_true rfl)) d_L_law_294 ⟨Nat.le_of_ble_eq_true rfl, Nat.le_of_ble_eq_true rfl⟩) ?_
  have hY := hY0
  refine tl_leq (tgt := 867) hx hb d_L_law_297 d_L_law_298 (by decide) (fun _ => ?_) (fun h => absurd rfl h)
  exact kk ls _ _ _ hl hS hX hY (Nat.le_succ_of_le hlat)

set_option maxHeartbeats 4000000 in
set_option maxRecDepth 100000 in
theorem law_case_8 {p : Program} {l : Launch} {e : Env} {s : State} {m : MethodId} {below : List Frame} {meth : Method} {c : Code} {Q : State → Prop} {b L : Nat} {xs : Nat → Int32} {D : va_G} {cJ cI cG cZ : ClassId} {ad bd : Nat → Nat} (C1 : tl_Law p s m meth c b L xs D cJ cI cG cZ ad bd) (hL : L ≤ 3584) {k : Nat} (hk7 : 7 * k + 7 ≤ L) {S : tl_S} {ls : Array Slot} {H : Heap} {locs : List Loc} (hl : lv_has ls 4 [(3, .int (nI (7 * k))), (0, .ref b), (1, .ref (ad 0)), (2, .ref (bd 0))]) (hS : va_S (fun q => s.heap.size ≤ q) s.heap H locs) (hX : tl_X D cJ cI cG ad S H) (hY : tl_Y D cJ cI cZ bd S H) (hlat : tl_lat S ≤ k) (kk : ∀ (ls1 : Array Slot) (H1 : Heap) (locs1 : List Loc) (S1 : tl_S), lv_has ls1 4 [(3, .int (nI (7 * k))), (0, .ref b), (1, .ref (ad 0)), (2, .ref (bd 0))] → va_S (fun q => s.heap.size ≤ q) s.heap H1 locs1 → tl_X D cJ cI cG ad S1 H1 → tl_Y D cJ cI cZ bd S1 H1 → tl_lat S1 ≤ k + 1 → W p l e room_1 s m #[Value.ref b] below meth c H1 locs1 600000 7302250 Q (F0 m 867 ls1 [])) : W p l e room_1 s m #[Value.ref b] below meth c H locs 600000 7302250 Q (F0 m 303 ls []) := by
  obtain ⟨hx, hb, hml, hown, hw, hXs, hbl, hE, hapA, hapB, hdj, hinA, hinB⟩ := C1
  obtain ⟨E, nf, T, Lh, sz, rt, dn, wm, cr, Lp, ol, O⟩ := S
  have hlat0 : Lh ≤ k := hlat
  refine lv_aload_n hx hb d_L_law_303 rfl (lv_at hl 2 rfl) ?_
  have hX0 := hX
  obtain ⟨hn, hs, pf, pl, r8, hH, hP⟩ := hX
  refine tl_goI (v := (nI Lh)) (va_runV (As := []) (rest := []) ⟨hx, hb, hml, hown, hw⟩ (c_T_latest l D cJ cI cG cZ ad E nf T hn hs rt dn wm cr pf pl O ol r8 Lh sz Lp   hH) (⟨tl_cB hw tl_m124 tl_m1 tl_m121 dd_T_latest rfl rfl ⟨Nat.le_of_ble_eq_true rfl, Nat.le_of_ble_eq_true rfl⟩, hw _ tl_m122, hw _ tl_m123⟩) (tl_preV hE hP (va_recv (q0 := 0) (ci := 0) (q := (R_T, F_T, 5)) hE.1 hP rfl rfl)) rfl rfl hl.1 rfl (lv_room (Nat.le_of_ble_eq_true rfl)) d_L_law_304 ⟨Nat.le_of_ble_eq_true rfl, Nat.le_of_ble_eq_true rfl⟩) ?_
  have hX := hX0
  refine lv_aload_n hx hb d_L_law_307 rfl (lv_at hl 3 rfl) ?_
  have hY0 := hY
  obtain ⟨tf2, hn2, hs2, cd2, pf2, pl2, rw2, rl2, wh2, th2, hG, hP2⟩ := hY
  refine tl_goI (v := (nI Lh)) (va_runV (As := []) (rest := [.int (nI Lh)]) ⟨hx, hb, hml, hown, hw⟩ (c_M_latest l D cJ cI cG cZ bd E nf tf2 hn2 hs2 rt dn wm cr cd2 pf2 pl2 O ol rw2 rl2 wh2 th2 Lh sz Lp T   hG) (⟨tl_cB hw tl_m291 tl_m3 tl_m288 dd_M_latest rfl rfl ⟨Nat.le_of_ble_eq_true rfl, Nat.le_of_ble_eq_true rfl⟩, hw _ tl_m289, hw _ tl_m290⟩) (tl_preV hE hP2 (va_recv (q0 := 0) (ci := 2) (q := (R_M, F_M, 18)) hE.1 hP2 rfl rfl)) rfl rfl hl.1 rfl (lv_room (Nat.le_of_ble_eq_true rfl)) d_L_law_308 ⟨Nat.le_of_ble_eq_true rfl, Nat.le_of_ble_eq_true rfl⟩) ?_
  have hY := hY0
  refine lv_icmp_eq (tgt := 867) hx hb d_L_law_311 (by decide) (fun _ => ?_) (fun h => absurd rfl h)
  exact kk ls _ _ _ hl hS hX hY (Nat.le_succ_of_le hlat)

set_option maxHeartbeats 4000000 in
set_option maxRecDepth 100000 in
theorem law_case_9 {p : Program} {l : Launch} {e : Env} {s : State} {m : MethodId} {below : List Frame} {meth : Method} {c : Code} {Q : State → Prop} {b L : Nat} {xs : Nat → Int32} {D : va_G} {cJ cI cG cZ : ClassId} {ad bd : Nat → Nat} (C1 : tl_Law p s m meth c b L xs D cJ cI cG cZ ad bd) (hL : L ≤ 3584) {k : Nat} (hk7 : 7 * k + 7 ≤ L) {S : tl_S} {ls : Array Slot} {H : Heap} {locs : List Loc} (hl : lv_has ls 4 [(3, .int (nI (7 * k))), (0, .ref b), (1, .ref (ad 0)), (2, .ref (bd 0))]) (hS : va_S (fun q => s.heap.size ≤ q) s.heap H locs) (hX : tl_X D cJ cI cG ad S H) (hY : tl_Y D cJ cI cZ bd S H) (hlat : tl_lat S ≤ k) (kk : ∀ (ls1 : Array Slot) (H1 : Heap) (locs1 : List Loc) (S1 : tl_S), lv_has ls1 4 [(3, .int (nI (7 * k))), (0, .ref b), (1, .ref (ad 0)), (2, .ref (bd 0))] → va_S (fun q => s.heap.size ≤ q) s.heap H1 locs1 → tl_X D cJ cI cG ad S1 H1 → tl_Y D cJ cI cZ bd S1 H1 → tl_lat S1 ≤ k + 1 → W p l e room_1 s m #[Value.ref b] below meth c H1 locs1 600000 7302250 Q (F0 m 867 ls1 [])) : W p l e room_1 s m #[Value.ref b] below meth c H locs 600000 7302250 Q (F0 m 316 ls []) := by
  obtain ⟨hx, hb, hml, hown, hw, hXs, hbl, hE, hapA, hapB, hdj, hinA, hinB⟩ := C1
  obtain ⟨E, nf, T, Lh, sz, rt, dn, wm, cr, Lp, ol, O⟩ := S
  have hlat0 : Lh ≤ k := hlat
  refine lv_aload_n hx hb d_L_law_316 rfl (lv_at hl 2 rfl) ?_
  refine lv_aload_n hx hb d_L_law_317 rfl (lv_at hl 1 rfl) ?_
  refine lv_iload_n hx hb d_L_law_318 rfl (lv_at hl 0 rfl) ?_
  refine lv_iconst (v := (nI (1))) hx hb d_L_law_319 (by decide) ?_
  refine lv_iadd hx hb d_L_law_320 ?_
  refine lv_topi (nm_r (e' := (nI ((7 * k) + 1))) (nI_add _ _) ?_)
  refine tl_sld (a := ((7 * k) + 1)) hx hb hXs hbl hS (by omega) hL d_L_law_321 ?_
  refine lv_aload_n hx hb d_L_law_322 rfl (lv_at hl 1 rfl) ?_
  refine lv_iload_n hx hb d_L_law_323 rfl (lv_at hl 0 rfl) ?_
  refine lv_iconst (v := (nI (2))) hx hb d_L_law_324 (by decide) ?_
  refine lv_iadd hx hb d_L_law_325 ?_
  refine lv_topi (nm_r (e' := (nI ((7 * k) + 2))) (nI_add _ _) ?_)
  refine tl_sld (a := ((7 * k) + 2)) hx hb hXs hbl hS (by omega) hL d_L_law_326 ?_
  refine lv_aload_n hx hb d_L_law_327 rfl (lv_at hl 1 rfl) ?_
  refine lv_iload_n hx hb d_L_law_328 rfl (lv_at hl 0 rfl) ?_
  refine lv_iconst (v := (nI (3))) hx hb d_L_law_329 (by decide) ?_
  refine lv_iadd hx hb d_L_law_330 ?_
  refine lv_topi (nm_r (e' := (nI ((7 * k) + 3))) (nI_add _ _) ?_)
  refine tl_sld (a := ((7 * k) + 3)) hx hb hXs hbl hS (by omega) hL d_L_law_331 ?_
  have hX0 := hX
  obtain ⟨hn, hs, pf, pl, r8, hH, hP⟩ := hX
  refine tl_goL (v := (tl_tileA T (xs ((7 * k) + 1)) (xs ((7 * k) + 2)) (xs ((7 * k) + 3)))) (va_runV (As := [.int (xs ((7 * k) + 1)), .int (xs ((7 * k) + 2)), .int (xs ((7 * k) + 3))]) (rest := []) ⟨hx, hb, hml, hown, hw⟩ (c_T_tile l D cJ cI cG cZ ad E nf T hn hs rt dn wm cr pf pl O ol r8 Lh sz Lp (xs ((7 * k) + 1)) (xs ((7 * k) + 2)) (xs ((7 * k) + 3))  hH) (⟨tl_cB hw tl_m128 tl_m1 tl_m125 dd_T_tile rfl rfl ⟨Nat.le_of_ble_eq_true rfl, Nat.le_of_ble_eq_true rfl⟩, hw _ tl_m126, hw _ tl_m127⟩) (tl_preV hE hP (va_recv (q0 := 0) (ci := 0) (q := (R_T, F_T, 5)) hE.1 hP rfl rfl)) rfl rfl hl.1 rfl (lv_room (Nat.le_of_ble_eq_true rfl)) d_L_law_332 ⟨Nat.le_of_ble_eq_true rfl, Nat.le_of_ble_eq_true rfl⟩) ?_
  have hX := hX0
  refine lv_aload_n hx hb d_L_law_335 rfl (lv_at hl 3 rfl) ?_
  refine lv_aload_n hx hb d_L_law_336 rfl (lv_at hl 1 rfl) ?_
  refine lv_iload_n hx hb d_L_law_337 rfl (lv_at hl 0 rfl) ?_
  refine lv_iconst (v := (nI (1))) hx hb d_L_law_338 (by decide) ?_
  refine lv_iadd hx hb d_L_law_339 ?_
  refine lv_topi (nm_r (e' := (nI ((7 * k) + 1))) (nI_add _ _) ?_)
  refine tl_sld (a := ((7 * k) + 1)) hx hb hXs hbl hS (by omega) hL d_L_law_340 ?_
  refine lv_aload_n hx hb d_L_law_341 rfl (lv_at hl 1 rfl) ?_
  refine lv_iload_n hx hb d_L_law_342 rfl (lv_at hl 0 rfl) ?_
  refine lv_iconst (v := (nI (2))) hx hb d_L_law_343 (by decide) ?_
  refine lv_iadd hx hb d_L_law_344 ?_
  refine lv_topi (nm_r (e' := (nI ((7 * k) + 2))) (nI_add _ _) ?_)
  refine tl_sld (a := ((7 * k) + 2)) hx hb hXs hbl hS (by omega) hL d_L_law_345 ?_
  refine lv_aload_n hx hb d_L_law_346 rfl (lv_at hl 1 rfl) ?_
  refine lv_iload_n hx hb d_L_law_347 rfl (lv_at hl 0 rfl) ?_
  refine lv_iconst (v := (nI (3))) hx hb d_L_law_348 (by decide) ?_
  refine lv_iadd hx hb d_L_law_349 ?_
  refine lv_topi (nm_r (e' := (nI ((7 * k) + 3))) (nI_add _ _) ?_)
  refine tl_sld (a := ((7 * k) + 3)) hx hb hXs hbl hS (by omega) hL d_L_law_350 ?_
  have hY0 := hY
  obtain ⟨tf2, hn2, hs2, cd2, pf2, pl2, rw2, rl2, wh2, th2, hG, hP2⟩ := hY
  refine tl_goL (v := (tl_tileA T (xs ((7 * k) + 1)) (xs ((7 * k) + 2)) (xs ((7 * k) + 3)))) (va_runV (As := [.int (xs ((7 * k) + 1)), .int (xs ((7 * k) + 2)), .int (xs ((7 * k) + 3))]) (rest := [.long (tl_tileA T (xs ((7 * k) + 1)) (xs ((7 * k) + 2)) (xs ((7 * k) + 3)))]) ⟨hx, hb, hml, hown, hw⟩ (c_M_tile l D cJ cI cG cZ bd E nf tf2 hn2 hs2 rt dn wm cr cd2 pf2 pl2 O ol rw2 rl2 wh2 th2 Lh sz Lp T (xs ((7 * k) + 1)) (xs ((7 * k) + 2)) (xs ((7 * k) + 3))  hG) (⟨tl_cB hw tl_m295 tl_m3 tl_m292 dd_M_tile rfl rfl ⟨Nat.le_of_ble_eq_true rfl, Nat.le_of_ble_eq_true rfl⟩, hw _ tl_m293, hw _ tl_m294⟩) (tl_preV hE hP2 (va_recv (q0 := 0) (ci := 2) (q := (R_M, F_M, 18)) hE.1 hP2 rfl rfl)) rfl rfl hl.1 rfl (lv_room (Nat.le_of_ble_eq_true rfl)) d_L_law_351 ⟨Nat.le_of_ble_eq_true rfl, Nat.le_of_ble_eq_true rfl⟩) ?_
  have hY := hY0
  refine tl_leq (tgt := 867) hx hb d_L_law_354 d_L_law_355 (by decide) (fun _ => ?_) (fun h => absurd rfl h)
  exact kk ls _ _ _ hl hS hX hY (Nat.le_succ_of_le hlat)

set_option maxHeartbeats 4000000 in
set_option maxRecDepth 100000 in
theorem law_case_10 {p : Program} {l : Launch} {e : Env} {s : State} {m : MethodId} {below : List Frame} {meth : Method} {c : Code} {Q : State → Prop} {b L : Nat} {xs : Nat → Int32} {D : va_G} {cJ cI cG cZ : ClassId} {ad bd : Nat → Nat} (C1 : tl_Law p s m meth c b L xs D cJ cI cG cZ ad bd) (hL : L ≤ 3584) {k : Nat} (hk7 : 7 * k + 7 ≤ L) {S : tl_S} {ls : Array Slot} {H : Heap} {locs : List Loc} (hl : lv_has ls 4 [(3, .int (nI (7 * k))), (0, .ref b), (1, .ref (ad 0)), (2, .ref (bd 0))]) (hS : va_S (fun q => s.heap.size ≤ q) s.heap H locs) (hX : tl_X D cJ cI cG ad S H) (hY : tl_Y D cJ cI cZ bd S H) (hlat : tl_lat S ≤ k) (kk : ∀ (ls1 : Array Slot) (H1 : Heap) (locs1 : List Loc) (S1 : tl_S), lv_has ls1 4 [(3, .int (nI (7 * k))), (0, .ref b), (1, .ref (ad 0)), (2, .ref (bd 0))] → va_S (fun q => s.heap.size ≤ q) s.heap H1 locs1 → tl_X D cJ cI cG ad S1 H1 → tl_Y D cJ cI cZ bd S1 H1 → tl_lat S1 ≤ k + 1 → W p l e room_1 s m #[Value.ref b] below meth c H1 locs1 600000 7302250 Q (F0 m 867 ls1 [])) : W p l e room_1 s m #[Value.ref b] below meth c H locs 600000 7302250 Q (F0 m 360 ls []) := by
  obtain ⟨hx, hb, hml, hown, hw, hXs, hbl, hE, hapA, hapB, hdj, hinA, hinB⟩ := C1
  obtain ⟨E, nf, T, Lh, sz, rt, dn, wm, cr, Lp, ol, O⟩ := S
  have hlat0 : Lh ≤ k := hlat
  refine lv_aload_n hx hb d_L_law_360 rfl (lv_at hl 2 rfl) ?_
  refine lv_aload_n hx hb d_L_law_361 rfl (lv_at hl 1 rfl) ?_
  refine lv_iload_n hx hb d_L_law_362 rfl (lv_at hl 0 rfl) ?_
  refine lv_iconst (v := (nI (1))) hx hb d_L_law_363 (by decide) ?_
  refine lv_iadd hx hb d_L_law_364 ?_
  refine lv_topi (nm_r (e' := (nI ((7 * k) + 1))) (nI_add _ _) ?_)
  refine tl_sld (a := ((7 * k) + 1)) hx hb hXs hbl hS (by omega) hL d_L_law_365 ?_
  have hX0 := hX
  obtain ⟨hn, hs, pf, pl, r8, hH, hP⟩ := hX
  refine tl_goL (v := (tl_entA E nf (xs ((7 * k) + 1)))) (va_runV (As := [.int (xs ((7 * k) + 1))]) (rest := []) ⟨hx, hb, hml, hown, hw⟩ (c_T_entry l D cJ cI cG cZ ad E nf T hn hs rt dn wm cr pf pl O ol r8 Lh sz Lp (xs ((7 * k) + 1))  hH) (⟨tl_cB hw tl_m132 tl_m1 tl_m129 dd_T_entry rfl rfl ⟨Nat.le_of_ble_eq_true rfl, Nat.le_of_ble_eq_true rfl⟩, hw _ tl_m130, hw _ tl_m131⟩) (tl_preV hE hP (va_recv (q0 := 0) (ci := 0) (q := (R_T, F_T, 5)) hE.1 hP rfl rfl)) rfl rfl hl.1 rfl (lv_room (Nat.le_of_ble_eq_true rfl)) d_L_law_366 ⟨Nat.le_of_ble_eq_true rfl, Nat.le_of_ble_eq_true rfl⟩) ?_
  have hX := hX0
  refine lv_aload_n hx hb d_L_law_369 rfl (lv_at hl 3 rfl) ?_
  refine lv_aload_n hx hb d_L_law_370 rfl (lv_at hl 1 rfl) ?_
  refine lv_iload_n hx hb d_L_law_371 rfl (lv_at hl 0 rfl) ?_
  refine lv_iconst (v := (nI (1))) hx hb d_L_law_372 (by decide) ?_
  refine lv_iadd hx hb d_L_law_373 ?_
  refine lv_topi (nm_r (e' := (nI ((7 * k) + 1))) (nI_add _ _) ?_)
  refine tl_sld (a := ((7 * k) + 1)) hx hb hXs hbl hS (by omega) hL d_L_law_374 ?_
  have hY0 := hY
  obtain ⟨tf2, hn2, hs2, cd2, pf2, pl2, rw2, rl2, wh2, th2, hG, hP2⟩ := hY
  refine tl_goL (v := (tl_entA E nf (xs ((7 * k) + 1)))) (va_runV (As := [.int (xs ((7 * k) + 1))]) (rest := [.long (tl_entA E nf (xs ((7 * k) + 1)))]) ⟨hx, hb, hml, hown, hw⟩ (c_M_entry l D cJ cI cG cZ bd E nf tf2 hn2 hs2 rt dn wm cr cd2 pf2 pl2 O ol rw2 rl2 wh2 th2 Lh sz Lp T (xs ((7 * k) + 1))  hG) (⟨tl_cB hw tl_m299 tl_m3 tl_m296 dd_M_entry rfl rfl ⟨Nat.le_of_ble_eq_true rfl, Nat.le_of_ble_eq_true rfl⟩, hw _ tl_m297, hw _ tl_m298⟩) (tl_preV hE hP2 (va_recv (q0 := 0) (ci := 2) (q := (R_M, F_M, 18)) hE.1 hP2 rfl rfl)) rfl rfl hl.1 rfl (lv_room (Nat.le_of_ble_eq_true rfl)) d_L_law_375 ⟨Nat.le_of_ble_eq_true rfl, Nat.le_of_ble_eq_true rfl⟩) ?_
  have hY := hY0
  refine tl_leq (tgt := 867) hx hb d_L_law_378 d_L_law_379 (by decide) (fun _ => ?_) (fun h => absurd rfl h)
  exact kk ls _ _ _ hl hS hX hY (Nat.le_succ_of_le hlat)

set_option maxHeartbeats 4000000 in
set_option maxRecDepth 100000 in
theorem law_case_11 {p : Program} {l : Launch} {e : Env} {s : State} {m : MethodId} {below : List Frame} {meth : Method} {c : Code} {Q : State → Prop} {b L : Nat} {xs : Nat → Int32} {D : va_G} {cJ cI cG cZ : ClassId} {ad bd : Nat → Nat} (C1 : tl_Law p s m meth c b L xs D cJ cI cG cZ ad bd) (hL : L ≤ 3584) {k : Nat} (hk7 : 7 * k + 7 ≤ L) {S : tl_S} {ls : Array Slot} {H : Heap} {locs : List Loc} (hl : lv_has ls 4 [(3, .int (nI (7 * k))), (0, .ref b), (1, .ref (ad 0)), (2, .ref (bd 0))]) (hS : va_S (fun q => s.heap.size ≤ q) s.heap H locs) (hX : tl_X D cJ cI cG ad S H) (hY : tl_Y D cJ cI cZ bd S H) (hlat : tl_lat S ≤ k) (kk : ∀ (ls1 : Array Slot) (H1 : Heap) (locs1 : List Loc) (S1 : tl_S), lv_has ls1 4 [(3, .int (nI (7 * k))), (0, .ref b), (1, .ref (ad 0)), (2, .ref (bd 0))] → va_S (fun q => s.heap.size ≤ q) s.heap H1 locs1 → tl_X D cJ cI cG ad S1 H1 → tl_Y D cJ cI cZ bd S1 H1 → tl_lat S1 ≤ k + 1 → W p l e room_1 s m #[Value.ref b] below meth c H1 locs1 600000 7302250 Q (F0 m 867 ls1 [])) : W p l e room_1 s m #[Value.ref b] below meth c H locs 600000 7302250 Q (F0 m 384 ls []) := by
  obtain ⟨hx, hb, hml, hown, hw, hXs, hbl, hE, hapA, hapB, hdj, hinA, hinB⟩ := C1
  obtain ⟨E, nf, T, Lh, sz, rt, dn, wm, cr, Lp, ol, O⟩ := S
  have hlat0 : Lh ≤ k := hlat
  refine lv_aload_n hx hb d_L_law_384 rfl (lv_at hl 2 rfl) ?_
  refine lv_aload_n hx hb d_L_law_385 rfl (lv_at hl 1 rfl) ?_
  refine lv_iload_n hx hb d_L_law_386 rfl (lv_at hl 0 rfl) ?_
  refine lv_iconst (v := (nI (1))) hx hb d_L_law_387 (by decide) ?_
  refine lv_iadd hx hb d_L_law_388 ?_
  refine lv_topi (nm_r (e' := (nI ((7 * k) + 1))) (nI_add _ _) ?_)
  refine tl_sld (a := ((7 * k) + 1)) hx hb hXs hbl hS (by omega) hL d_L_law_389 ?_
  refine lv_i2l (v := ((xs ((7 * k) + 1)).toInt64)) hx hb d_L_law_390 rfl ?_
  refine lv_bipush (v := (nI (32))) hx hb d_L_law_391 (by decide) ?_
  refine lv_lshl (v := (((xs ((7 * k) + 1)).toInt64) <<< ((nI (32)).toInt64 &&& 63))) hx hb d_L_law_393 rfl ?_
  refine lv_aload_n hx hb d_L_law_394 rfl (lv_at hl 1 rfl) ?_
  refine lv_iload_n hx hb d_L_law_395 rfl (lv_at hl 0 rfl) ?_
  refine lv_iconst (v := (nI (2))) hx hb d_L_law_396 (by decide) ?_
  refine lv_iadd hx hb d_L_law_397 ?_
  refine lv_topi (nm_r (e' := (nI ((7 * k) + 2))) (nI_add _ _) ?_)
  refine tl_sld (a := ((7 * k) + 2)) hx hb hXs hbl hS (by omega) hL d_L_law_398 ?_
  refine lv_i2l (v := ((xs ((7 * k) + 2)).toInt64)) hx hb d_L_law_399 rfl ?_
  refine lv_ldc2 (v := 4294967295) hx hb hown (hw _ tl_m352) d_L_law_400 ?_
  refine lv_land hx hb d_L_law_403 ?_
  refine lv_lor hx hb d_L_law_404 ?_
  refine lv_topl (nm_r (e' := (tl_lg (xs ((7 * k) + 1)) (xs ((7 * k) + 2)))) (rfl) ?_)
  have hX0 := hX
  obtain ⟨hn, hs, pf, pl, r8, hH, hP⟩ := hX
  refine tl_goI (v := (tl_findA E dn (tl_pub Lh sz) (tl_lg (xs ((7 * k) + 1)) (xs ((7 * k) + 2))))) (va_runV (As := [.long (tl_lg (xs ((7 * k) + 1)) (xs ((7 * k) + 2)))]) (rest := []) ⟨hx, hb, hml, hown, hw⟩ (c_T_find l D cJ cI cG cZ ad E nf T hn hs rt dn wm cr pf pl O ol r8 Lh sz Lp (tl_lg (xs ((7 * k) + 1)) (xs ((7 * k) + 2)))  hH) (⟨tl_cB hw tl_m136 tl_m1 tl_m133 dd_T_find rfl rfl ⟨Nat.le_of_ble_eq_true rfl, Nat.le_of_ble_eq_true rfl⟩, hw _ tl_m134, hw _ tl_m135⟩) (tl_preV hE hP (va_recv (q0 := 0) (ci := 0) (q := (R_T, F_T, 5)) hE.1 hP rfl rfl)) rfl rfl hl.1 rfl (lv_room (Nat.le_of_ble_eq_true rfl)) d_L_law_405 ⟨Nat.le_of_ble_eq_true rfl, Nat.le_of_ble_eq_true rfl⟩) ?_
  have hX := hX0
  refine lv_aload_n hx hb d_L_law_408 rfl (lv_at hl 3 rfl) ?_
  refine lv_aload_n hx hb d_L_law_409 rfl (lv_at hl 1 rfl) ?_
  refine lv_iload_n hx hb d_L_law_410 rfl (lv_at hl 0 rfl) ?_
  refine lv_iconst (v := (nI (1))) hx hb d_L_law_411 (by decide) ?_
  refine lv_iadd hx hb d_L_law_412 ?_
  refine lv_topi (nm_r (e' := (nI ((7 * k) + 1))) (nI_add _ _) ?_)
  refine tl_sld (a := ((7 * k) + 1)) hx hb hXs hbl hS (by omega) hL d_L_law_413 ?_
  refine lv_i2l (v := ((xs ((7 * k) + 1)).toInt64)) hx hb d_L_law_414 rfl ?_
  refine lv_bipush (v := (nI (32))) hx hb d_L_law_415 (by decide) ?_
  refine lv_lshl (v := (((xs ((7 * k) + 1)).toInt64) <<< ((nI (32)).toInt64 &&& 63))) hx hb d_L_law_417 rfl ?_
  refine lv_aload_n hx hb d_L_law_418 rfl (lv_at hl 1 rfl) ?_
  refine lv_iload_n hx hb d_L_law_419 rfl (lv_at hl 0 rfl) ?_
  refine lv_iconst (v := (nI (2))) hx hb d_L_law_420 (by decide) ?_
  refine lv_iadd hx hb d_L_law_421 ?_
  refine lv_topi (nm_r (e' := (nI ((7 * k) + 2))) (nI_add _ _) ?_)
  refine tl_sld (a := ((7 * k) + 2)) hx hb hXs hbl hS (by omega) hL d_L_law_422 ?_
  refine lv_i2l (v := ((xs ((7 * k) + 2)).toInt64)) hx hb d_L_law_423 rfl ?_
  refine lv_ldc2 (v := 4294967295) hx hb hown (hw _ tl_m352) d_L_law_424 ?_
  refine lv_land hx hb d_L_law_427 ?_
  refine lv_lor hx hb d_L_law_428 ?_
  refine lv_topl (nm_r (e' := (tl_lg (xs ((7 * k) + 1)) (xs ((7 * k) + 2)))) (rfl) ?_)
  have hY0 := hY
  obtain ⟨tf2, hn2, hs2, cd2, pf2, pl2, rw2, rl2, wh2, th2, hG, hP2⟩ := hY
  refine tl_goI (v := (tl_findA E dn (tl_pub Lh sz) (tl_lg (xs ((7 * k) + 1)) (xs ((7 * k) + 2))))) (va_runV (As := [.long (tl_lg (xs ((7 * k) + 1)) (xs ((7 * k) + 2)))]) (rest := [.int (tl_findA E dn (tl_pub Lh sz) (tl_lg (xs ((7 * k) + 1)) (xs ((7 * k) + 2))))]) ⟨hx, hb, hml, hown, hw⟩ (c_M_find l D cJ cI cG cZ bd E nf tf2 hn2 hs2 rt dn wm cr cd2 pf2 pl2 O ol rw2 rl2 wh2 th2 Lh sz Lp T (tl_lg (xs ((7 * k) + 1)) (xs ((7 * k) + 2)))  hG) (⟨tl_cB hw tl_m303 tl_m3 tl_m300 dd_M_find rfl rfl ⟨Nat.le_of_ble_eq_true rfl, Nat.le_of_ble_eq_true rfl⟩, hw _ tl_m301, hw _ tl_m302⟩) (tl_preV hE hP2 (va_recv (q0 := 0) (ci := 2) (q := (R_M, F_M, 18)) hE.1 hP2 rfl rfl)) rfl rfl hl.1 rfl (lv_room (Nat.le_of_ble_eq_true rfl)) d_L_law_429 ⟨Nat.le_of_ble_eq_true rfl, Nat.le_of_ble_eq_true rfl⟩) ?_
  have hY := hY0
  refine lv_icmp_eq (tgt := 867) hx hb d_L_law_432 (by decide) (fun _ => ?_) (fun h => absurd rfl h)
  exact kk ls _ _ _ hl hS hX hY (Nat.le_succ_of_le hlat)

set_option maxHeartbeats 4000000 in
set_option maxRecDepth 100000 in
theorem law_case_12 {p : Program} {l : Launch} {e : Env} {s : State} {m : MethodId} {below : List Frame} {meth : Method} {c : Code} {Q : State → Prop} {b L : Nat} {xs : Nat → Int32} {D : va_G} {cJ cI cG cZ : ClassId} {ad bd : Nat → Nat} (C1 : tl_Law p s m meth c b L xs D cJ cI cG cZ ad bd) (hL : L ≤ 3584) {k : Nat} (hk7 : 7 * k + 7 ≤ L) {S : tl_S} {ls : Array Slot} {H : Heap} {locs : List Loc} (hl : lv_has ls 4 [(3, .int (nI (7 * k))), (0, .ref b), (1, .ref (ad 0)), (2, .ref (bd 0))]) (hS : va_S (fun q => s.heap.size ≤ q) s.heap H locs) (hX : tl_X D cJ cI cG ad S H) (hY : tl_Y D cJ cI cZ bd S H) (hlat : tl_lat S ≤ k) (kk : ∀ (ls1 : Array Slot) (H1 : Heap) (locs1 : List Loc) (S1 : tl_S), lv_has ls1 4 [(3, .int (nI (7 * k))), (0, .ref b), (1, .ref (ad 0)), (2, .ref (bd 0))] → va_S (fun q => s.heap.size ≤ q) s.heap H1 locs1 → tl_X D cJ cI cG ad S1 H1 → tl_Y D cJ cI cZ bd S1 H1 → tl_lat S1 ≤ k + 1 → W p l e room_1 s m #[Value.ref b] below meth c H1 locs1 600000 7302250 Q (F0 m 867 ls1 [])) : W p l e room_1 s m #[Value.ref b] below meth c H locs 600000 7302250 Q (F0 m 437 ls []) := by
  obtain ⟨hx, hb, hml, hown, hw, hXs, hbl, hE, hapA, hapB, hdj, hinA, hinB⟩ := C1
  obtain ⟨E, nf, T, Lh, sz, rt, dn, wm, cr, Lp, ol, O⟩ := S
  have hlat0 : Lh ≤ k := hlat
  refine lv_aload_n hx hb d_L_law_437 rfl (lv_at hl 2 rfl) ?_
  refine lv_aload_n hx hb d_L_law_438 rfl (lv_at hl 1 rfl) ?_
  refine lv_iload_n hx hb d_L_law_439 rfl (lv_at hl 0 rfl) ?_
  refine lv_iconst (v := (nI (1))) hx hb d_L_law_440 (by decide) ?_
  refine lv_iadd hx hb d_L_law_441 ?_
  refine lv_topi (nm_r (e' := (nI ((7 * k) + 1))) (nI_add _ _) ?_)
  refine tl_sld (a := ((7 * k) + 1)) hx hb hXs hbl hS (by omega) hL d_L_law_442 ?_
  have hX0 := hX
  obtain ⟨hn, hs, pf, pl, r8, hH, hP⟩ := hX
  refine tl_goL (v := (tl_rofA E nf (xs ((7 * k) + 1)))) (va_runV (As := [.int (xs ((7 * k) + 1))]) (rest := []) ⟨hx, hb, hml, hown, hw⟩ (c_T_rootOf l D cJ cI cG cZ ad E nf T hn hs rt dn wm cr pf pl O ol r8 Lh sz Lp (xs ((7 * k) + 1))  hH) (⟨tl_cB hw tl_m140 tl_m1 tl_m137 dd_T_rootOf rfl rfl ⟨Nat.le_of_ble_eq_true rfl, Nat.le_of_ble_eq_true rfl⟩, hw _ tl_m138, hw _ tl_m139⟩) (tl_preV hE hP (va_recv (q0 := 0) (ci := 0) (q := (R_T, F_T, 5)) hE.1 hP rfl rfl)) rfl rfl hl.1 rfl (lv_room (Nat.le_of_ble_eq_true rfl)) d_L_law_443 ⟨Nat.le_of_ble_eq_true rfl, Nat.le_of_ble_eq_true rfl⟩) ?_
  have hX := hX0
  refine lv_aload_n hx hb d_L_law_446 rfl (lv_at hl 3 rfl) ?_
  refine lv_aload_n hx hb d_L_law_447 rfl (lv_at hl 1 rfl) ?_
  refine lv_iload_n hx hb d_L_law_448 rfl (lv_at hl 0 rfl) ?_
  refine lv_iconst (v := (nI (1))) hx hb d_L_law_449 (by decide) ?_
  refine lv_iadd hx hb d_L_law_450 ?_
  refine lv_topi (nm_r (e' := (nI ((7 * k) + 1))) (nI_add _ _) ?_)
  refine tl_sld (a := ((7 * k) + 1)) hx hb hXs hbl hS (by omega) hL d_L_law_451 ?_
  have hY0 := hY
  obtain ⟨tf2, hn2, hs2, cd2, pf2, pl2, rw2, rl2, wh2, th2, hG, hP2⟩ := hY
  refine tl_doL (v := (tl_rofA E nf (xs ((7 * k) + 1)))) (va_runV (As := [.int (xs ((7 * k) + 1))]) (rest := [.long (tl_rofA E nf (xs ((7 * k) + 1)))]) ⟨hx, hb, hml, hown, hw⟩ (c_M_rootOf l D cJ cI cG cZ bd E nf tf2 hn2 hs2 rt dn wm cr cd2 pf2 pl2 O ol rw2 rl2 wh2 th2 Lh sz Lp T (xs ((7 * k) + 1)) hapB hG) (⟨tl_cB hw tl_m307 tl_m3 tl_m304 dd_M_rootOf rfl rfl ⟨Nat.le_of_ble_eq_true rfl, Nat.le_of_ble_eq_true rfl⟩, hw _ tl_m305, hw _ tl_m306⟩) (tl_preV hE hP2 (va_recv (q0 := 0) (ci := 2) (q := (R_M, F_M, 18)) hE.1 hP2 rfl rfl)) rfl rfl hl.1 rfl (lv_room (Nat.le_of_ble_eq_true rfl)) d_L_law_452 ⟨Nat.le_of_ble_eq_true rfl, Nat.le_of_ble_eq_true rfl⟩) hS hinB (fun H2 locs2 hY2 hS2 hk2 => ?_)
  have hX2 := tl_X_kept hX hdj hk2
  clear hX hS hk2
  have hX := hX2
  have hY : tl_Y D cJ cI cZ bd (E, nf, T, Lh, sz, rt, dn, wm, cr, Lp, ol, O) H2 := hY2
  have hS := hS2
  refine tl_leq (tgt := 867) hx hb d_L_law_455 d_L_law_456 (by decide) (fun _ => ?_) (fun h => absurd rfl h)
  exact kk ls _ _ _ hl hS hX hY (Nat.le_succ_of_le hlat)

set_option maxHeartbeats 4000000 in
set_option maxRecDepth 100000 in
theorem law_case_13 {p : Program} {l : Launch} {e : Env} {s : State} {m : MethodId} {below : List Frame} {meth : Method} {c : Code} {Q : State → Prop} {b L : Nat} {xs : Nat → Int32} {D : va_G} {cJ cI cG cZ : ClassId} {ad bd : Nat → Nat} (C1 : tl_Law p s m meth c b L xs D cJ cI cG cZ ad bd) (hL : L ≤ 3584) {k : Nat} (hk7 : 7 * k + 7 ≤ L) {S : tl_S} {ls : Array Slot} {H : Heap} {locs : List Loc} (hl : lv_has ls 4 [(3, .int (nI (7 * k))), (0, .ref b), (1, .ref (ad 0)), (2, .ref (bd 0))]) (hS : va_S (fun q => s.heap.size ≤ q) s.heap H locs) (hX : tl_X D cJ cI cG ad S H) (hY : tl_Y D cJ cI cZ bd S H) (hlat : tl_lat S ≤ k) (kk : ∀ (ls1 : Array Slot) (H1 : Heap) (locs1 : List Loc) (S1 : tl_S), lv_has ls1 4 [(3, .int (nI (7 * k))), (0, .ref b), (1, .ref (ad 0)), (2, .ref (bd 0))] → va_S (fun q => s.heap.size ≤ q) s.heap H1 locs1 → tl_X D cJ cI cG ad S1 H1 → tl_Y D cJ cI cZ bd S1 H1 → tl_lat S1 ≤ k + 1 → W p l e room_1 s m #[Value.ref b] below meth c H1 locs1 600000 7302250 Q (F0 m 867 ls1 [])) : W p l e room_1 s m #[Value.ref b] below meth c H locs 600000 7302250 Q (F0 m 461 ls []) := by
  obtain ⟨hx, hb, hml, hown, hw, hXs, hbl, hE, hapA, hapB, hdj, hinA, hinB⟩ := C1
  obtain ⟨E, nf, T, Lh, sz, rt, dn, wm, cr, Lp, ol, O⟩ := S
  have hlat0 : Lh ≤ k := hlat
  refine lv_aload_n hx hb d_L_law_461 rfl (lv_at hl 2 rfl) ?_
  refine lv_aload_n hx hb d_L_law_462 rfl (lv_at hl 1 rfl) ?_
  refine lv_iload_n hx hb d_L_law_463 rfl (lv_at hl 0 rfl) ?_
  refine lv_iconst (v := (nI (1))) hx hb d_L_law_464 (by decide) ?_
  refine lv_iadd hx hb d_L_law_465 ?_
  refine lv_topi (nm_r (e' := (nI ((7 * k) + 1))) (nI_add _ _) ?_)
  refine tl_sld (a := ((7 * k) + 1)) hx hb hXs hbl hS (by omega) hL d_L_law_466 ?_
  refine lv_aload_n hx hb d_L_law_467 rfl (lv_at hl 1 rfl) ?_
  refine lv_iload_n hx hb d_L_law_468 rfl (lv_at hl 0 rfl) ?_
  refine lv_iconst (v := (nI (2))) hx hb d_L_law_469 (by decide) ?_
  refine lv_iadd hx hb d_L_law_470 ?_
  refine lv_topi (nm_r (e' := (nI ((7 * k) + 2))) (nI_add _ _) ?_)
  refine tl_sld (a := ((7 * k) + 2)) hx hb hXs hbl hS (by omega) hL d_L_law_471 ?_
  have hX0 := hX
  obtain ⟨hn, hs, pf, pl, r8, hH, hP⟩ := hX
  refine tl_doI (v := ((tl_include (xs ((7 * k) + 1)) (xs ((7 * k) + 2)) (E, nf, T, Lh, sz, rt, dn, wm, cr, Lp, ol, O)).1)) (va_runV (As := [.int (xs ((7 * k) + 1)), .int (xs ((7 * k) + 2))]) (rest := []) ⟨hx, hb, hml, hown, hw⟩ (c_T_include l D cJ cI cG cZ ad E nf T hn hs rt dn wm cr pf pl O ol r8 Lh sz Lp (xs ((7 * k) + 1)) (xs ((7 * k) + 2)) hapA hH) (⟨tl_cB hw tl_m144 tl_m1 tl_m141 dd_T_include rfl rfl ⟨Nat.le_of_ble_eq_true rfl, Nat.le_of_ble_eq_true rfl⟩, hw _ tl_m142, hw _ tl_m143⟩) (tl_preV hE hP (va_recv (q0 := 0) (ci := 0) (q := (R_T, F_T, 5)) hE.1 hP rfl rfl)) rfl rfl hl.1 rfl (lv_room (Nat.le_of_ble_eq_true rfl)) d_L_law_472 ⟨Nat.le_of_ble_eq_true rfl, Nat.le_of_ble_eq_true rfl⟩) hS hinA (fun H1 locs1 hX1 hS1 hk1 => ?_)
  have hY1 := tl_Y_kept hY hdj hk1
  clear hX0 hP hH hS hk1 hY
  have hX : tl_X D cJ cI cG ad (tl_include (xs ((7 * k) + 1)) (xs ((7 * k) + 2)) (E, nf, T, Lh, sz, rt, dn, wm, cr, Lp, ol, O)).2 H1 := hX1
  have hY := hY1
  have hS := hS1
  clear hX1 hY1 hS1
  refine lv_aload_n hx hb d_L_law_475 rfl (lv_at hl 3 rfl) ?_
  refine lv_aload_n hx hb d_L_law_476 rfl (lv_at hl 1 rfl) ?_
  refine lv_iload_n hx hb d_L_law_477 rfl (lv_at hl 0 rfl) ?_
  refine lv_iconst (v := (nI (1))) hx hb d_L_law_478 (by decide) ?_
  refine lv_iadd hx hb d_L_law_479 ?_
  refine lv_topi (nm_r (e' := (nI ((7 * k) + 1))) (nI_add _ _) ?_)
  refine tl_sld (a := ((7 * k) + 1)) hx hb hXs hbl hS (by omega) hL d_L_law_480 ?_
  refine lv_aload_n hx hb d_L_law_481 rfl (lv_at hl 1 rfl) ?_
  refine lv_iload_n hx hb d_L_law_482 rfl (lv_at hl 0 rfl) ?_
  refine lv_iconst (v := (nI (2))) hx hb d_L_law_483 (by decide) ?_
  refine lv_iadd hx hb d_L_law_484 ?_
  refine lv_topi (nm_r (e' := (nI ((7 * k) + 2))) (nI_add _ _) ?_)
  refine tl_sld (a := ((7 * k) + 2)) hx hb hXs hbl hS (by omega) hL d_L_law_485 ?_
  have hY0 := hY
  obtain ⟨tf2, hn2, hs2, cd2, pf2, pl2, rw2, rl2, wh2, th2, hG, hP2⟩ := hY
  refine tl_doI (v := ((tl_include (xs ((7 * k) + 1)) (xs ((7 * k) + 2)) (E, nf, T, Lh, sz, rt, dn, wm, cr, Lp, ol, O)).1)) (va_runV (As := [.int (xs ((7 * k) + 1)), .int (xs ((7 * k) + 2))]) (rest := [.int ((tl_include (xs ((7 * k) + 1)) (xs ((7 * k) + 2)) (E, nf, T, Lh, sz, rt, dn, wm, cr, Lp, ol, O)).1)]) ⟨hx, hb, hml, hown, hw⟩ (c_M_include l D cJ cI cG cZ bd E nf tf2 hn2 hs2 rt dn wm cr cd2 pf2 pl2 O ol rw2 rl2 wh2 th2 Lh sz Lp T (xs ((7 * k) + 1)) (xs ((7 * k) + 2)) hapB hG) (⟨tl_cB hw tl_m311 tl_m3 tl_m308 dd_M_include rfl rfl ⟨Nat.le_of_ble_eq_true rfl, Nat.le_of_ble_eq_true rfl⟩, hw _ tl_m309, hw _ tl_m310⟩) (tl_preV hE hP2 (va_recv (q0 := 0) (ci := 2) (q := (R_M, F_M, 18)) hE.1 hP2 rfl rfl)) rfl rfl hl.1 rfl (lv_room (Nat.le_of_ble_eq_true rfl)) d_L_law_486 ⟨Nat.le_of_ble_eq_true rfl, Nat.le_of_ble_eq_true rfl⟩) hS hinB (fun H2 locs2 hY2 hS2 hk2 => ?_)
  have hX2 := tl_X_kept hX hdj hk2
  clear hX hS hk2
  have hX := hX2
  have hY : tl_Y D cJ cI cZ bd (tl_include (xs ((7 * k) + 1)) (xs ((7 * k) + 2)) (E, nf, T, Lh, sz, rt, dn, wm, cr, Lp, ol, O)).2 H2 := hY2
  have hS := hS2
  refine lv_icmp_eq (tgt := 867) hx hb d_L_law_489 (by decide) (fun _ => ?_) (fun h => absurd rfl h)
  exact kk ls _ _ _ hl hS hX hY (Nat.le_trans (tl_lat_include (xs ((7 * k) + 1)) (xs ((7 * k) + 2)) (E, nf, T, Lh, sz, rt, dn, wm, cr, Lp, ol, O)) (Nat.succ_le_succ hlat))

set_option maxHeartbeats 4000000 in
set_option maxRecDepth 100000 in
theorem law_case_14 {p : Program} {l : Launch} {e : Env} {s : State} {m : MethodId} {below : List Frame} {meth : Method} {c : Code} {Q : State → Prop} {b L : Nat} {xs : Nat → Int32} {D : va_G} {cJ cI cG cZ : ClassId} {ad bd : Nat → Nat} (C1 : tl_Law p s m meth c b L xs D cJ cI cG cZ ad bd) (hL : L ≤ 3584) {k : Nat} (hk7 : 7 * k + 7 ≤ L) {S : tl_S} {ls : Array Slot} {H : Heap} {locs : List Loc} (hl : lv_has ls 4 [(3, .int (nI (7 * k))), (0, .ref b), (1, .ref (ad 0)), (2, .ref (bd 0))]) (hS : va_S (fun q => s.heap.size ≤ q) s.heap H locs) (hX : tl_X D cJ cI cG ad S H) (hY : tl_Y D cJ cI cZ bd S H) (hlat : tl_lat S ≤ k) (kk : ∀ (ls1 : Array Slot) (H1 : Heap) (locs1 : List Loc) (S1 : tl_S), lv_has ls1 4 [(3, .int (nI (7 * k))), (0, .ref b), (1, .ref (ad 0)), (2, .ref (bd 0))] → va_S (fun q => s.heap.size ≤ q) s.heap H1 locs1 → tl_X D cJ cI cG ad S1 H1 → tl_Y D cJ cI cZ bd S1 H1 → tl_lat S1 ≤ k + 1 → W p l e room_1 s m #[Value.ref b] below meth c H1 locs1 600000 7302250 Q (F0 m 867 ls1 [])) : W p l e room_1 s m #[Value.ref b] below meth c H locs 600000 7302250 Q (F0 m 494 ls []) := by
  obtain ⟨hx, hb, hml, hown, hw, hXs, hbl, hE, hapA, hapB, hdj, hinA, hinB⟩ := C1
  obtain ⟨E, nf, T, Lh, sz, rt, dn, wm, cr, Lp, ol, O⟩ := S
  have hlat0 : Lh ≤ k := hlat
  refine lv_aload_n hx hb d_L_law_494 rfl (lv_at hl 2 rfl) ?_
  refine lv_aload_n hx hb d_L_law_495 rfl (lv_at hl 1 rfl) ?_
  refine lv_iload_n hx hb d_L_law_496 rfl (lv_at hl 0 rfl) ?_
  refine lv_iconst (v := (nI (1))) hx hb d_L_law_497 (by decide) ?_
  refine lv_iadd hx hb d_L_law_498 ?_
  refine lv_topi (nm_r (e' := (nI ((7 * k) + 1))) (nI_add _ _) ?_)
  refine tl_sld (a := ((7 * k) + 1)) hx hb hXs hbl hS (by omega) hL d_L_law_499 ?_
  refine lv_aload_n hx hb d_L_law_500 rfl (lv_at hl 1 rfl) ?_
  refine lv_iload_n hx hb d_L_law_501 rfl (lv_at hl 0 rfl) ?_
  refine lv_iconst (v := (nI (2))) hx hb d_L_law_502 (by decide) ?_
  refine lv_iadd hx hb d_L_law_503 ?_
  refine lv_topi (nm_r (e' := (nI ((7 * k) + 2))) (nI_add _ _) ?_)
  refine tl_sld (a := ((7 * k) + 2)) hx hb hXs hbl hS (by omega) hL d_L_law_504 ?_
  have hX0 := hX
  obtain ⟨hn, hs, pf, pl, r8, hH, hP⟩ := hX
  refine tl_doI (v := ((tl_extend (xs ((7 * k) + 1)) (xs ((7 * k) + 2)) (E, nf, T, Lh, sz, rt, dn, wm, cr, Lp, ol, O)).1)) (va_runV (As := [.int (xs ((7 * k) + 1)), .int (xs ((7 * k) + 2))]) (rest := []) ⟨hx, hb, hml, hown, hw⟩ (c_T_extend l D cJ cI cG cZ ad E nf T hn hs rt dn wm cr pf pl O ol r8 Lh sz Lp (xs ((7 * k) + 1)) (xs ((7 * k) + 2)) hapA hH) (⟨tl_cB hw tl_m154 tl_m1 tl_m151 dd_T_extend rfl rfl ⟨Nat.le_of_ble_eq_true rfl, Nat.le_of_ble_eq_true rfl⟩, hw _ tl_m152, hw _ tl_m153⟩) (tl_preV hE hP (va_recv (q0 := 0) (ci := 0) (q := (R_T, F_T, 5)) hE.1 hP rfl rfl)) rfl rfl hl.1 rfl (lv_room (Nat.le_of_ble_eq_true rfl)) d_L_law_505 ⟨Nat.le_of_ble_eq_true rfl, Nat.le_of_ble_eq_true rfl⟩) hS hinA (fun H1 locs1 hX1 hS1 hk1 => ?_)
  have hY1 := tl_Y_kept hY hdj hk1
  clear hX0 hP hH hS hk1 hY
  have hX : tl_X D cJ cI cG ad (tl_extend (xs ((7 * k) + 1)) (xs ((7 * k) + 2)) (E, nf, T, Lh, sz, rt, dn, wm, cr, Lp, ol, O)).2 H1 := hX1
  have hY := hY1
  have hS := hS1
  clear hX1 hY1 hS1
  refine lv_aload_n hx hb d_L_law_508 rfl (lv_at hl 3 rfl) ?_
  refine lv_aload_n hx hb d_L_law_509 rfl (lv_at hl 1 rfl) ?_
  refine lv_iload_n hx hb d_L_law_510 rfl (lv_at hl 0 rfl) ?_
  refine lv_iconst (v := (nI (1))) hx hb d_L_law_511 (by decide) ?_
  refine lv_iadd hx hb d_L_law_512 ?_
  refine lv_topi (nm_r (e' := (nI ((7 * k) + 1))) (nI_add _ _) ?_)
  refine tl_sld (a := ((7 * k) + 1)) hx hb hXs hbl hS (by omega) hL d_L_law_513 ?_
  refine lv_aload_n hx hb d_L_law_514 rfl (lv_at hl 1 rfl) ?_
  refine lv_iload_n hx hb d_L_law_515 rfl (lv_at hl 0 rfl) ?_
  refine lv_iconst (v := (nI (2))) hx hb d_L_law_516 (by decide) ?_
  refine lv_iadd hx hb d_L_law_517 ?_
  refine lv_topi (nm_r (e' := (nI ((7 * k) + 2))) (nI_add _ _) ?_)
  refine tl_sld (a := ((7 * k) + 2)) hx hb hXs hbl hS (by omega) hL d_L_law_518 ?_
  have hY0 := hY
  obtain ⟨tf2, hn2, hs2, cd2, pf2, pl2, rw2, rl2, wh2, th2, hG, hP2⟩ := hY
  refine tl_doI (v := ((tl_extend (xs ((7 * k) + 1)) (xs ((7 * k) + 2)) (E, nf, T, Lh, sz, rt, dn, wm, cr, Lp, ol, O)).1)) (va_runV (As := [.int (xs ((7 * k) + 1)), .int (xs ((7 * k) + 2))]) (rest := [.int ((tl_extend (xs ((7 * k) + 1)) (xs ((7 * k) + 2)) (E, nf, T, Lh, sz, rt, dn, wm, cr, Lp, ol, O)).1)]) ⟨hx, hb, hml, hown, hw⟩ (c_M_extend l D cJ cI cG cZ bd E nf tf2 hn2 hs2 rt dn wm cr cd2 pf2 pl2 O ol rw2 rl2 wh2 th2 Lh sz Lp T (xs ((7 * k) + 1)) (xs ((7 * k) + 2)) hapB hG) (⟨tl_cB hw tl_m324 tl_m3 tl_m321 dd_M_extend rfl rfl ⟨Nat.le_of_ble_eq_true rfl, Nat.le_of_ble_eq_true rfl⟩, hw _ tl_m322, hw _ tl_m323⟩) (tl_preV hE hP2 (va_recv (q0 := 0) (ci := 2) (q := (R_M, F_M, 18)) hE.1 hP2 rfl rfl)) rfl rfl hl.1 rfl (lv_room (Nat.le_of_ble_eq_true rfl)) d_L_law_519 ⟨Nat.le_of_ble_eq_true rfl, Nat.le_of_ble_eq_true rfl⟩) hS hinB (fun H2 locs2 hY2 hS2 hk2 => ?_)
  have hX2 := tl_X_kept hX hdj hk2
  clear hX hS hk2
  have hX := hX2
  have hY : tl_Y D cJ cI cZ bd (tl_extend (xs ((7 * k) + 1)) (xs ((7 * k) + 2)) (E, nf, T, Lh, sz, rt, dn, wm, cr, Lp, ol, O)).2 H2 := hY2
  have hS := hS2
  refine lv_icmp_eq (tgt := 867) hx hb d_L_law_522 (by decide) (fun _ => ?_) (fun h => absurd rfl h)
  exact kk ls _ _ _ hl hS hX hY (Nat.le_trans (tl_lat_extend (xs ((7 * k) + 1)) (xs ((7 * k) + 2)) (E, nf, T, Lh, sz, rt, dn, wm, cr, Lp, ol, O)) (Nat.succ_le_succ hlat))

set_option maxHeartbeats 4000000 in
set_option maxRecDepth 100000 in
theorem law_case_15 {p : Program} {l : Launch} {e : Env} {s : State} {m : MethodId} {below : List Frame} {meth : Method} {c : Code} {Q : State → Prop} {b L : Nat} {xs : Nat → Int32} {D : va_G} {cJ cI cG cZ : ClassId} {ad bd : Nat → Nat} (C1 : tl_Law p s m meth c b L xs D cJ cI cG cZ ad bd) (hL : L ≤ 3584) {k : Nat} (hk7 : 7 * k + 7 ≤ L) {S : tl_S} {ls : Array Slot} {H : Heap} {locs : List Loc} (hl : lv_has ls 4 [(3, .int (nI (7 * k))), (0, .ref b), (1, .ref (ad 0)), (2, .ref (bd 0))]) (hS : va_S (fun q => s.heap.size ≤ q) s.heap H locs) (hX : tl_X D cJ cI cG ad S H) (hY : tl_Y D cJ cI cZ bd S H) (hlat : tl_lat S ≤ k) (kk : ∀ (ls1 : Array Slot) (H1 : Heap) (locs1 : List Loc) (S1 : tl_S), lv_has ls1 4 [(3, .int (nI (7 * k))), (0, .ref b), (1, .ref (ad 0)), (2, .ref (bd 0))] → va_S (fun q => s.heap.size ≤ q) s.heap H1 locs1 → tl_X D cJ cI cG ad S1 H1 → tl_Y D cJ cI cZ bd S1 H1 → tl_lat S1 ≤ k + 1 → W p l e room_1 s m #[Value.ref b] below meth c H1 locs1 600000 7302250 Q (F0 m 867 ls1 [])) : W p l e room_1 s m #[Value.ref b] below meth c H locs 600000 7302250 Q (F0 m 527 ls []) := by
  obtain ⟨hx, hb, hml, hown, hw, hXs, hbl, hE, hapA, hapB, hdj, hinA, hinB⟩ := C1
  obtain ⟨E, nf, T, Lh, sz, rt, dn, wm, cr, Lp, ol, O⟩ := S
  have hlat0 : Lh ≤ k := hlat
  refine lv_aload_n hx hb d_L_law_527 rfl (lv_at hl 2 rfl) ?_
  refine lv_aload_n hx hb d_L_law_528 rfl (lv_at hl 1 rfl) ?_
  refine lv_iload_n hx hb d_L_law_529 rfl (lv_at hl 0 rfl) ?_
  refine lv_iconst (v := (nI (1))) hx hb d_L_law_530 (by decide) ?_
  refine lv_iadd hx hb d_L_law_531 ?_
  refine lv_topi (nm_r (e' := (nI ((7 * k) + 1))) (nI_add _ _) ?_)
  refine tl_sld (a := ((7 * k) + 1)) hx hb hXs hbl hS (by omega) hL d_L_law_532 ?_
  have hX0 := hX
  obtain ⟨hn, hs, pf, pl, r8, hH, hP⟩ := hX
  refine tl_goL (v := (tl_prfA Lp (xs ((7 * k) + 1)))) (va_runV (As := [.int (xs ((7 * k) + 1))]) (rest := []) ⟨hx, hb, hml, hown, hw⟩ (c_T_proof l D cJ cI cG cZ ad E nf T hn hs rt dn wm cr pf pl O ol r8 Lh sz Lp (xs ((7 * k) + 1))  hH) (⟨tl_cB hw tl_m161 tl_m1 tl_m158 dd_T_proof rfl rfl ⟨Nat.le_of_ble_eq_true rfl, Nat.le_of_ble_eq_true rfl⟩, hw _ tl_m159, hw _ tl_m160⟩) (tl_preV hE hP (va_recv (q0 := 0) (ci := 0) (q := (R_T, F_T, 5)) hE.1 hP rfl rfl)) rfl rfl hl.1 rfl (lv_room (Nat.le_of_ble_eq_true rfl)) d_L_law_533 ⟨Nat.le_of_ble_eq_true rfl, Nat.le_of_ble_eq_true rfl⟩) ?_
  have hX := hX0
  refine lv_aload_n hx hb d_L_law_536 rfl (lv_at hl 3 rfl) ?_
  refine lv_aload_n hx hb d_L_law_537 rfl (lv_at hl 1 rfl) ?_
  refine lv_iload_n hx hb d_L_law_538 rfl (lv_at hl 0 rfl) ?_
  refine lv_iconst (v := (nI (1))) hx hb d_L_law_539 (by decide) ?_
  refine lv_iadd hx hb d_L_law_540 ?_
  refine lv_topi (nm_r (e' := (nI ((7 * k) + 1))) (nI_add _ _) ?_)
  refine tl_sld (a := ((7 * k) + 1)) hx hb hXs hbl hS (by omega) hL d_L_law_541 ?_
  have hY0 := hY
  obtain ⟨tf2, hn2, hs2, cd2, pf2, pl2, rw2, rl2, wh2, th2, hG, hP2⟩ := hY
  refine tl_goL (v := (tl_prfA Lp (xs ((7 * k) + 1)))) (va_runV (As := [.int (xs ((7 * k) + 1))]) (rest := [.long (tl_prfA Lp (xs ((7 * k) + 1)))]) ⟨hx, hb, hml, hown, hw⟩ (c_M_proof l D cJ cI cG cZ bd E nf tf2 hn2 hs2 rt dn wm cr cd2 pf2 pl2 O ol rw2 rl2 wh2 th2 Lh sz Lp T (xs ((7 * k) + 1))  hG) (⟨tl_cB hw tl_m328 tl_m3 tl_m325 dd_M_proof rfl rfl ⟨Nat.le_of_ble_eq_true rfl, Nat.le_of_ble_eq_true rfl⟩, hw _ tl_m326, hw _ tl_m327⟩) (tl_preV hE hP2 (va_recv (q0 := 0) (ci := 2) (q := (R_M, F_M, 18)) hE.1 hP2 rfl rfl)) rfl rfl hl.1 rfl (lv_room (Nat.le_of_ble_eq_true rfl)) d_L_law_542 ⟨Nat.le_of_ble_eq_true rfl, Nat.le_of_ble_eq_true rfl⟩) ?_
  have hY := hY0
  refine tl_leq (tgt := 867) hx hb d_L_law_545 d_L_law_546 (by decide) (fun _ => ?_) (fun h => absurd rfl h)
  exact kk ls _ _ _ hl hS hX hY (Nat.le_succ_of_le hlat)

set_option maxHeartbeats 4000000 in
set_option maxRecDepth 100000 in
theorem law_case_16 {p : Program} {l : Launch} {e : Env} {s : State} {m : MethodId} {below : List Frame} {meth : Method} {c : Code} {Q : State → Prop} {b L : Nat} {xs : Nat → Int32} {D : va_G} {cJ cI cG cZ : ClassId} {ad bd : Nat → Nat} (C1 : tl_Law p s m meth c b L xs D cJ cI cG cZ ad bd) (hL : L ≤ 3584) {k : Nat} (hk7 : 7 * k + 7 ≤ L) {S : tl_S} {ls : Array Slot} {H : Heap} {locs : List Loc} (hl : lv_has ls 4 [(3, .int (nI (7 * k))), (0, .ref b), (1, .ref (ad 0)), (2, .ref (bd 0))]) (hS : va_S (fun q => s.heap.size ≤ q) s.heap H locs) (hX : tl_X D cJ cI cG ad S H) (hY : tl_Y D cJ cI cZ bd S H) (hlat : tl_lat S ≤ k) (kk : ∀ (ls1 : Array Slot) (H1 : Heap) (locs1 : List Loc) (S1 : tl_S), lv_has ls1 4 [(3, .int (nI (7 * k))), (0, .ref b), (1, .ref (ad 0)), (2, .ref (bd 0))] → va_S (fun q => s.heap.size ≤ q) s.heap H1 locs1 → tl_X D cJ cI cG ad S1 H1 → tl_Y D cJ cI cZ bd S1 H1 → tl_lat S1 ≤ k + 1 → W p l e room_1 s m #[Value.ref b] below meth c H1 locs1 600000 7302250 Q (F0 m 867 ls1 [])) : W p l e room_1 s m #[Value.ref b] below meth c H locs 600000 7302250 Q (F0 m 551 ls []) := by
  obtain ⟨hx, hb, hml, hown, hw, hXs, hbl, hE, hapA, hapB, hdj, hinA, hinB⟩ := C1
  obtain ⟨E, nf, T, Lh, sz, rt, dn, wm, cr, Lp, ol, O⟩ := S
  have hlat0 : Lh ≤ k := hlat
  refine lv_aload_n hx hb d_L_law_551 rfl (lv_at hl 2 rfl) ?_
  refine lv_aload_n hx hb d_L_law_552 rfl (lv_at hl 1 rfl) ?_
  refine lv_iload_n hx hb d_L_law_553 rfl (lv_at hl 0 rfl) ?_
  refine lv_iconst (v := (nI (1))) hx hb d_L_law_554 (by decide) ?_
  refine lv_iadd hx hb d_L_law_555 ?_
  refine lv_topi (nm_r (e' := (nI ((7 * k) + 1))) (nI_add _ _) ?_)
  refine tl_sld (a := ((7 * k) + 1)) hx hb hXs hbl hS (by omega) hL d_L_law_556 ?_
  refine lv_aload_n hx hb d_L_law_557 rfl (lv_at hl 1 rfl) ?_
  refine lv_iload_n hx hb d_L_law_558 rfl (lv_at hl 0 rfl) ?_
  refine lv_iconst (v := (nI (2))) hx hb d_L_law_559 (by decide) ?_
  refine lv_iadd hx hb d_L_law_560 ?_
  refine lv_topi (nm_r (e' := (nI ((7 * k) + 2))) (nI_add _ _) ?_)
  refine tl_sld (a := ((7 * k) + 2)) hx hb hXs hbl hS (by omega) hL d_L_law_561 ?_
  refine lv_i2l (v := ((xs ((7 * k) + 2)).toInt64)) hx hb d_L_law_562 rfl ?_
  refine lv_bipush (v := (nI (32))) hx hb d_L_law_563 (by decide) ?_
  refine lv_lshl (v := (((xs ((7 * k) + 2)).toInt64) <<< ((nI (32)).toInt64 &&& 63))) hx hb d_L_law_565 rfl ?_
  refine lv_aload_n hx hb d_L_law_566 rfl (lv_at hl 1 rfl) ?_
  refine lv_iload_n hx hb d_L_law_567 rfl (lv_at hl 0 rfl) ?_
  refine lv_iconst (v := (nI (3))) hx hb d_L_law_568 (by decide) ?_
  refine lv_iadd hx hb d_L_law_569 ?_
  refine lv_topi (nm_r (e' := (nI ((7 * k) + 3))) (nI_add _ _) ?_)
  refine tl_sld (a := ((7 * k) + 3)) hx hb hXs hbl hS (by omega) hL d_L_law_570 ?_
  refine lv_i2l (v := ((xs ((7 * k) + 3)).toInt64)) hx hb d_L_law_571 rfl ?_
  refine lv_ldc2 (v := 4294967295) hx hb hown (hw _ tl_m352) d_L_law_572 ?_
  refine lv_land hx hb d_L_law_575 ?_
  refine lv_lor hx hb d_L_law_576 ?_
  refine lv_topl (nm_r (e' := (tl_lg (xs ((7 * k) + 2)) (xs ((7 * k) + 3)))) (rfl) ?_)
  have hX0 := hX
  obtain ⟨hn, hs, pf, pl, r8, hH, hP⟩ := hX
  refine tl_doI (v := ((tl_offer (xs ((7 * k) + 1)) (tl_lg (xs ((7 * k) + 2)) (xs ((7 * k) + 3))) (E, nf, T, Lh, sz, rt, dn, wm, cr, Lp, ol, O)).1)) (va_runV (As := [.int (xs ((7 * k) + 1)), .long (tl_lg (xs ((7 * k) + 2)) (xs ((7 * k) + 3)))]) (rest := []) ⟨hx, hb, hml, hown, hw⟩ (c_T_offer l D cJ cI cG cZ ad E nf T hn hs rt dn wm cr pf pl O ol r8 Lh sz Lp (xs ((7 * k) + 1)) (tl_lg (xs ((7 * k) + 2)) (xs ((7 * k) + 3))) hapA hH) (⟨tl_cB hw tl_m165 tl_m1 tl_m162 dd_T_offer rfl rfl ⟨Nat.le_of_ble_eq_true rfl, Nat.le_of_ble_eq_true rfl⟩, hw _ tl_m163, hw _ tl_m164⟩) (tl_preV hE hP (va_recv (q0 := 0) (ci := 0) (q := (R_T, F_T, 5)) hE.1 hP rfl rfl)) rfl rfl hl.1 rfl (lv_room (Nat.le_of_ble_eq_true rfl)) d_L_law_577 ⟨Nat.le_of_ble_eq_true rfl, Nat.le_of_ble_eq_true rfl⟩) hS hinA (fun H1 locs1 hX1 hS1 hk1 => ?_)
  have hY1 := tl_Y_kept hY hdj hk1
  clear hX0 hP hH hS hk1 hY
  have hX : tl_X D cJ cI cG ad (tl_offer (xs ((7 * k) + 1)) (tl_lg (xs ((7 * k) + 2)) (xs ((7 * k) + 3))) (E, nf, T, Lh, sz, rt, dn, wm, cr, Lp, ol, O)).2 H1 := hX1
  have hY := hY1
  have hS := hS1
  clear hX1 hY1 hS1
  refine lv_aload_n hx hb d_L_law_580 rfl (lv_at hl 3 rfl) ?_
  refine lv_aload_n hx hb d_L_law_581 rfl (lv_at hl 1 rfl) ?_
  refine lv_iload_n hx hb d_L_law_582 rfl (lv_at hl 0 rfl) ?_
  refine lv_iconst (v := (nI (1))) hx hb d_L_law_583 (by decide) ?_
  refine lv_iadd hx hb d_L_law_584 ?_
  refine lv_topi (nm_r (e' := (nI ((7 * k) + 1))) (nI_add _ _) ?_)
  refine tl_sld (a := ((7 * k) + 1)) hx hb hXs hbl hS (by omega) hL d_L_law_585 ?_
  refine lv_aload_n hx hb d_L_law_586 rfl (lv_at hl 1 rfl) ?_
  refine lv_iload_n hx hb d_L_law_587 rfl (lv_at hl 0 rfl) ?_
  refine lv_iconst (v := (nI (2))) hx hb d_L_law_588 (by decide) ?_
  refine lv_iadd hx hb d_L_law_589 ?_
  refine lv_topi (nm_r (e' := (nI ((7 * k) + 2))) (nI_add _ _) ?_)
  refine tl_sld (a := ((7 * k) + 2)) hx hb hXs hbl hS (by omega) hL d_L_law_590 ?_
  refine lv_i2l (v := ((xs ((7 * k) + 2)).toInt64)) hx hb d_L_law_591 rfl ?_
  refine lv_bipush (v := (nI (32))) hx hb d_L_law_592 (by decide) ?_
  refine lv_lshl (v := (((xs ((7 * k) + 2)).toInt64) <<< ((nI (32)).toInt64 &&& 63))) hx hb d_L_law_594 rfl ?_
  refine lv_aload_n hx hb d_L_law_595 rfl (lv_at hl 1 rfl) ?_
  refine lv_iload_n hx hb d_L_law_596 rfl (lv_at hl 0 rfl) ?_
  refine lv_iconst (v := (nI (3))) hx hb d_L_law_597 (by decide) ?_
  refine lv_iadd hx hb d_L_law_598 ?_
  refine lv_topi (nm_r (e' := (nI ((7 * k) + 3))) (nI_add _ _) ?_)
  refine tl_sld (a := ((7 * k) + 3)) hx hb hXs hbl hS (by omega) hL d_L_law_599 ?_
  refine lv_i2l (v := ((xs ((7 * k) + 3)).toInt64)) hx hb d_L_law_600 rfl ?_
  refine lv_ldc2 (v := 4294967295) hx hb hown (hw _ tl_m352) d_L_law_601 ?_
  refine lv_land hx hb d_L_law_604 ?_
  refine lv_lor hx hb d_L_law_605 ?_
  refine lv_topl (nm_r (e' := (tl_lg (xs ((7 * k) + 2)) (xs ((7 * k) + 3)))) (rfl) ?_)
  have hY0 := hY
  obtain ⟨tf2, hn2, hs2, cd2, pf2, pl2, rw2, rl2, wh2, th2, hG, hP2⟩ := hY
  refine tl_doI (v := ((tl_offer (xs ((7 * k) + 1)) (tl_lg (xs ((7 * k) + 2)) (xs ((7 * k) + 3))) (E, nf, T, Lh, sz, rt, dn, wm, cr, Lp, ol, O)).1)) (va_runV (As := [.int (xs ((7 * k) + 1)), .long (tl_lg (xs ((7 * k) + 2)) (xs ((7 * k) + 3)))]) (rest := [.int ((tl_offer (xs ((7 * k) + 1)) (tl_lg (xs ((7 * k) + 2)) (xs ((7 * k) + 3))) (E, nf, T, Lh, sz, rt, dn, wm, cr, Lp, ol, O)).1)]) ⟨hx, hb, hml, hown, hw⟩ (c_M_offer l D cJ cI cG cZ bd E nf tf2 hn2 hs2 rt dn wm cr cd2 pf2 pl2 O ol rw2 rl2 wh2 th2 Lh sz Lp T (xs ((7 * k) + 1)) (tl_lg (xs ((7 * k) + 2)) (xs ((7 * k) + 3))) hapB hG) (⟨tl_cB hw tl_m332 tl_m3 tl_m329 dd_M_offer rfl rfl ⟨Nat.le_of_ble_eq_true rfl, Nat.le_of_ble_eq_true rfl⟩, hw _ tl_m330, hw _ tl_m331⟩) (tl_preV hE hP2 (va_recv (q0 := 0) (ci := 2) (q := (R_M, F_M, 18)) hE.1 hP2 rfl rfl)) rfl rfl hl.1 rfl (lv_room (Nat.le_of_ble_eq_true rfl)) d_L_law_606 ⟨Nat.le_of_ble_eq_true rfl, Nat.le_of_ble_eq_true rfl⟩) hS hinB (fun H2 locs2 hY2 hS2 hk2 => ?_)
  have hX2 := tl_X_kept hX hdj hk2
  clear hX hS hk2
  have hX := hX2
  have hY : tl_Y D cJ cI cZ bd (tl_offer (xs ((7 * k) + 1)) (tl_lg (xs ((7 * k) + 2)) (xs ((7 * k) + 3))) (E, nf, T, Lh, sz, rt, dn, wm, cr, Lp, ol, O)).2 H2 := hY2
  have hS := hS2
  refine lv_icmp_eq (tgt := 867) hx hb d_L_law_609 (by decide) (fun _ => ?_) (fun h => absurd rfl h)
  exact kk ls _ _ _ hl hS hX hY (Nat.le_trans (tl_lat_offer (xs ((7 * k) + 1)) (tl_lg (xs ((7 * k) + 2)) (xs ((7 * k) + 3))) (E, nf, T, Lh, sz, rt, dn, wm, cr, Lp, ol, O)) (Nat.succ_le_succ hlat))

set_option maxHeartbeats 4000000 in
set_option maxRecDepth 100000 in
theorem law_case_17 {p : Program} {l : Launch} {e : Env} {s : State} {m : MethodId} {below : List Frame} {meth : Method} {c : Code} {Q : State → Prop} {b L : Nat} {xs : Nat → Int32} {D : va_G} {cJ cI cG cZ : ClassId} {ad bd : Nat → Nat} (C1 : tl_Law p s m meth c b L xs D cJ cI cG cZ ad bd) (hL : L ≤ 3584) {k : Nat} (hk7 : 7 * k + 7 ≤ L) {S : tl_S} {ls : Array Slot} {H : Heap} {locs : List Loc} (hl : lv_has ls 4 [(3, .int (nI (7 * k))), (0, .ref b), (1, .ref (ad 0)), (2, .ref (bd 0))]) (hS : va_S (fun q => s.heap.size ≤ q) s.heap H locs) (hX : tl_X D cJ cI cG ad S H) (hY : tl_Y D cJ cI cZ bd S H) (hlat : tl_lat S ≤ k) (kk : ∀ (ls1 : Array Slot) (H1 : Heap) (locs1 : List Loc) (S1 : tl_S), lv_has ls1 4 [(3, .int (nI (7 * k))), (0, .ref b), (1, .ref (ad 0)), (2, .ref (bd 0))] → va_S (fun q => s.heap.size ≤ q) s.heap H1 locs1 → tl_X D cJ cI cG ad S1 H1 → tl_Y D cJ cI cZ bd S1 H1 → tl_lat S1 ≤ k + 1 → W p l e room_1 s m #[Value.ref b] below meth c H1 locs1 600000 7302250 Q (F0 m 867 ls1 [])) : W p l e room_1 s m #[Value.ref b] below meth c H locs 600000 7302250 Q (F0 m 614 ls []) := by
  obtain ⟨hx, hb, hml, hown, hw, hXs, hbl, hE, hapA, hapB, hdj, hinA, hinB⟩ := C1
  obtain ⟨E, nf, T, Lh, sz, rt, dn, wm, cr, Lp, ol, O⟩ := S
  have hlat0 : Lh ≤ k := hlat
  refine lv_aload_n hx hb d_L_law_614 rfl (lv_at hl 2 rfl) ?_
  refine lv_aload_n hx hb d_L_law_615 rfl (lv_at hl 1 rfl) ?_
  refine lv_iload_n hx hb d_L_law_616 rfl (lv_at hl 0 rfl) ?_
  refine lv_iconst (v := (nI (1))) hx hb d_L_law_617 (by decide) ?_
  refine lv_iadd hx hb d_L_law_618 ?_
  refine lv_topi (nm_r (e' := (nI ((7 * k) + 1))) (nI_add _ _) ?_)
  refine tl_sld (a := ((7 * k) + 1)) hx hb hXs hbl hS (by omega) hL d_L_law_619 ?_
  have hX0 := hX
  obtain ⟨hn, hs, pf, pl, r8, hH, hP⟩ := hX
  refine tl_doI (v := ((tl_offers (xs ((7 * k) + 1)) (E, nf, T, Lh, sz, rt, dn, wm, cr, Lp, ol, O)).1)) (va_runV (As := [.int (xs ((7 * k) + 1))]) (rest := []) ⟨hx, hb, hml, hown, hw⟩ (c_T_offers l D cJ cI cG cZ ad E nf T hn hs rt dn wm cr pf pl O ol r8 Lh sz Lp (xs ((7 * k) + 1)) hapA hH) (⟨tl_cB hw tl_m169 tl_m1 tl_m166 dd_T_offers rfl rfl ⟨Nat.le_of_ble_eq_true rfl, Nat.le_of_ble_eq_true rfl⟩, hw _ tl_m167, hw _ tl_m168⟩) (tl_preV hE hP (va_recv (q0 := 0) (ci := 0) (q := (R_T, F_T, 5)) hE.1 hP rfl rfl)) rfl rfl hl.1 rfl (lv_room (Nat.le_of_ble_eq_true rfl)) d_L_law_620 ⟨Nat.le_of_ble_eq_true rfl, Nat.le_of_ble_eq_true rfl⟩) hS hinA (fun H1 locs1 hX1 hS1 hk1 => ?_)
  have hY1 := tl_Y_kept hY hdj hk1
  clear hX0 hP hH hS hk1 hY
  have hX : tl_X D cJ cI cG ad (tl_offers (xs ((7 * k) + 1)) (E, nf, T, Lh, sz, rt, dn, wm, cr, Lp, ol, O)).2 H1 := hX1
  have hY := hY1
  have hS := hS1
  clear hX1 hY1 hS1
  refine lv_aload_n hx hb d_L_law_623 rfl (lv_at hl 3 rfl) ?_
  refine lv_aload_n hx hb d_L_law_624 rfl (lv_at hl 1 rfl) ?_
  refine lv_iload_n hx hb d_L_law_625 rfl (lv_at hl 0 rfl) ?_
  refine lv_iconst (v := (nI (1))) hx hb d_L_law_626 (by decide) ?_
  refine lv_iadd hx hb d_L_law_627 ?_
  refine lv_topi (nm_r (e' := (nI ((7 * k) + 1))) (nI_add _ _) ?_)
  refine tl_sld (a := ((7 * k) + 1)) hx hb hXs hbl hS (by omega) hL d_L_law_628 ?_
  have hY0 := hY
  obtain ⟨tf2, hn2, hs2, cd2, pf2, pl2, rw2, rl2, wh2, th2, hG, hP2⟩ := hY
  refine tl_doI (v := ((tl_offers (xs ((7 * k) + 1)) (E, nf, T, Lh, sz, rt, dn, wm, cr, Lp, ol, O)).1)) (va_runV (As := [.int (xs ((7 * k) + 1))]) (rest := [.int ((tl_offers (xs ((7 * k) + 1)) (E, nf, T, Lh, sz, rt, dn, wm, cr, Lp, ol, O)).1)]) ⟨hx, hb, hml, hown, hw⟩ (c_M_offers l D cJ cI cG cZ bd E nf tf2 hn2 hs2 rt dn wm cr cd2 pf2 pl2 O ol rw2 rl2 wh2 th2 Lh sz Lp T (xs ((7 * k) + 1)) hapB hG) (⟨tl_cB hw tl_m336 tl_m3 tl_m333 dd_M_offers rfl rfl ⟨Nat.le_of_ble_eq_true rfl, Nat.le_of_ble_eq_true rfl⟩, hw _ tl_m334, hw _ tl_m335⟩) (tl_preV hE hP2 (va_recv (q0 := 0) (ci := 2) (q := (R_M, F_M, 18)) hE.1 hP2 rfl rfl)) rfl rfl hl.1 rfl (lv_room (Nat.le_of_ble_eq_true rfl)) d_L_law_629 ⟨Nat.le_of_ble_eq_true rfl, Nat.le_of_ble_eq_true rfl⟩) hS hinB (fun H2 locs2 hY2 hS2 hk2 => ?_)
  have hX2 := tl_X_kept hX hdj hk2
  clear hX hS hk2
  have hX := hX2
  have hY : tl_Y D cJ cI cZ bd (tl_offers (xs ((7 * k) + 1)) (E, nf, T, Lh, sz, rt, dn, wm, cr, Lp, ol, O)).2 H2 := hY2
  have hS := hS2
  refine lv_icmp_eq (tgt := 867) hx hb d_L_law_632 (by decide) (fun _ => ?_) (fun h => absurd rfl h)
  exact kk ls _ _ _ hl hS hX hY (Nat.le_trans (tl_lat_offers (xs ((7 * k) + 1)) (E, nf, T, Lh, sz, rt, dn, wm, cr, Lp, ol, O)) (Nat.succ_le_succ hlat))

set_option maxHeartbeats 4000000 in
set_option maxRecDepth 100000 in
theorem law_case_18 {p : Program} {l : Launch} {e : Env} {s : State} {m : MethodId} {below : List Frame} {meth : Method} {c : Code} {Q : State → Prop} {b L : Nat} {xs : Nat → Int32} {D : va_G} {cJ cI cG cZ : ClassId} {ad bd : Nat → Nat} (C1 : tl_Law p s m meth c b L xs D cJ cI cG cZ ad bd) (hL : L ≤ 3584) {k : Nat} (hk7 : 7 * k + 7 ≤ L) {S : tl_S} {ls : Array Slot} {H : Heap} {locs : List Loc} (hl : lv_has ls 4 [(3, .int (nI (7 * k))), (0, .ref b), (1, .ref (ad 0)), (2, .ref (bd 0))]) (hS : va_S (fun q => s.heap.size ≤ q) s.heap H locs) (hX : tl_X D cJ cI cG ad S H) (hY : tl_Y D cJ cI cZ bd S H) (hlat : tl_lat S ≤ k) (kk : ∀ (ls1 : Array Slot) (H1 : Heap) (locs1 : List Loc) (S1 : tl_S), lv_has ls1 4 [(3, .int (nI (7 * k))), (0, .ref b), (1, .ref (ad 0)), (2, .ref (bd 0))] → va_S (fun q => s.heap.size ≤ q) s.heap H1 locs1 → tl_X D cJ cI cG ad S1 H1 → tl_Y D cJ cI cZ bd S1 H1 → tl_lat S1 ≤ k + 1 → W p l e room_1 s m #[Value.ref b] below meth c H1 locs1 600000 7302250 Q (F0 m 867 ls1 [])) : W p l e room_1 s m #[Value.ref b] below meth c H locs 600000 7302250 Q (F0 m 637 ls []) := by
  obtain ⟨hx, hb, hml, hown, hw, hXs, hbl, hE, hapA, hapB, hdj, hinA, hinB⟩ := C1
  obtain ⟨E, nf, T, Lh, sz, rt, dn, wm, cr, Lp, ol, O⟩ := S
  have hlat0 : Lh ≤ k := hlat
  refine lv_aload_n hx hb d_L_law_637 rfl (lv_at hl 2 rfl) ?_
  refine lv_aload_n hx hb d_L_law_638 rfl (lv_at hl 1 rfl) ?_
  refine lv_iload_n hx hb d_L_law_639 rfl (lv_at hl 0 rfl) ?_
  refine lv_iconst (v := (nI (1))) hx hb d_L_law_640 (by decide) ?_
  refine lv_iadd hx hb d_L_law_641 ?_
  refine lv_topi (nm_r (e' := (nI ((7 * k) + 1))) (nI_add _ _) ?_)
  refine tl_sld (a := ((7 * k) + 1)) hx hb hXs hbl hS (by omega) hL d_L_law_642 ?_
  refine lv_i2l (v := ((xs ((7 * k) + 1)).toInt64)) hx hb d_L_law_643 rfl ?_
  refine lv_bipush (v := (nI (32))) hx hb d_L_law_644 (by decide) ?_
  refine lv_lshl (v := (((xs ((7 * k) + 1)).toInt64) <<< ((nI (32)).toInt64 &&& 63))) hx hb d_L_law_646 rfl ?_
  refine lv_aload_n hx hb d_L_law_647 rfl (lv_at hl 1 rfl) ?_
  refine lv_iload_n hx hb d_L_law_648 rfl (lv_at hl 0 rfl) ?_
  refine lv_iconst (v := (nI (2))) hx hb d_L_law_649 (by decide) ?_
  refine lv_iadd hx hb d_L_law_650 ?_
  refine lv_topi (nm_r (e' := (nI ((7 * k) + 2))) (nI_add _ _) ?_)
  refine tl_sld (a := ((7 * k) + 2)) hx hb hXs hbl hS (by omega) hL d_L_law_651 ?_
  refine lv_i2l (v := ((xs ((7 * k) + 2)).toInt64)) hx hb d_L_law_652 rfl ?_
  refine lv_ldc2 (v := 4294967295) hx hb hown (hw _ tl_m352) d_L_law_653 ?_
  refine lv_land hx hb d_L_law_656 ?_
  refine lv_lor hx hb d_L_law_657 ?_
  refine lv_topl (nm_r (e' := (tl_lg (xs ((7 * k) + 1)) (xs ((7 * k) + 2)))) (rfl) ?_)
  refine lv_aload_n hx hb d_L_law_658 rfl (lv_at hl 1 rfl) ?_
  refine lv_iload_n hx hb d_L_law_659 rfl (lv_at hl 0 rfl) ?_
  refine lv_iconst (v := (nI (3))) hx hb d_L_law_660 (by decide) ?_
  refine lv_iadd hx hb d_L_law_661 ?_
  refine lv_topi (nm_r (e' := (nI ((7 * k) + 3))) (nI_add _ _) ?_)
  refine tl_sld (a := ((7 * k) + 3)) hx hb hXs hbl hS (by omega) hL d_L_law_662 ?_
  refine lv_aload_n hx hb d_L_law_663 rfl (lv_at hl 1 rfl) ?_
  refine lv_iload_n hx hb d_L_law_664 rfl (lv_at hl 0 rfl) ?_
  refine lv_iconst (v := (nI (4))) hx hb d_L_law_665 (by decide) ?_
  refine lv_iadd hx hb d_L_law_666 ?_
  refine lv_topi (nm_r (e' := (nI ((7 * k) + 4))) (nI_add _ _) ?_)
  refine tl_sld (a := ((7 * k) + 4)) hx hb hXs hbl hS (by omega) hL d_L_law_667 ?_
  refine lv_aload_n hx hb d_L_law_668 rfl (lv_at hl 1 rfl) ?_
  refine lv_iload_n hx hb d_L_law_669 rfl (lv_at hl 0 rfl) ?_
  refine lv_iconst (v := (nI (5))) hx hb d_L_law_670 (by decide) ?_
  refine lv_iadd hx hb d_L_law_671 ?_
  refine lv_topi (nm_r (e' := (nI ((7 * k) + 5))) (nI_add _ _) ?_)
  refine tl_sld (a := ((7 * k) + 5)) hx hb hXs hbl hS (by omega) hL d_L_law_672 ?_
  refine lv_i2l (v := ((xs ((7 * k) + 5)).toInt64)) hx hb d_L_law_673 rfl ?_
  refine lv_bipush (v := (nI (32))) hx hb d_L_law_674 (by decide) ?_
  refine lv_lshl (v := (((xs ((7 * k) + 5)).toInt64) <<< ((nI (32)).toInt64 &&& 63))) hx hb d_L_law_676 rfl ?_
  refine lv_aload_n hx hb d_L_law_677 rfl (lv_at hl 1 rfl) ?_
  refine lv_iload_n hx hb d_L_law_678 rfl (lv_at hl 0 rfl) ?_
  refine lv_bipush (v := (nI (6))) hx hb d_L_law_679 (by decide) ?_
  refine lv_iadd hx hb d_L_law_681 ?_
  refine lv_topi (nm_r (e' := (nI ((7 * k) + 6))) (nI_add _ _) ?_)
  refine tl_sld (a := ((7 * k) + 6)) hx hb hXs hbl hS (by omega) hL d_L_law_682 ?_
  refine lv_i2l (v := ((xs ((7 * k) + 6)).toInt64)) hx hb d_L_law_683 rfl ?_
  refine lv_ldc2 (v := 4294967295) hx hb hown (hw _ tl_m352) d_L_law_684 ?_
  refine lv_land hx hb d_L_law_687 ?_
  refine lv_lor hx hb d_L_law_688 ?_
  refine lv_topl (nm_r (e' := (tl_lg (xs ((7 * k) + 5)) (xs ((7 * k) + 6)))) (rfl) ?_)
  have hX0 := hX
  obtain ⟨hn, hs, pf, pl, r8, hH, hP⟩ := hX
  refine tl_goI (v := (tl_bi (tl_shA O ol (tl_lg (xs ((7 * k) + 1)) (xs ((7 * k) + 2))) (xs ((7 * k) + 3)) (xs ((7 * k) + 4)) (tl_lg (xs ((7 * k) + 5)) (xs ((7 * k) + 6)))))) (va_runV (As := [.long (tl_lg (xs ((7 * k) + 1)) (xs ((7 * k) + 2))), .int (xs ((7 * k) + 3)), .int (xs ((7 * k) + 4)), .long (tl_lg (xs ((7 * k) + 5)) (xs ((7 * k) + 6)))]) (rest := []) ⟨hx, hb, hml, hown, hw⟩ (c_T_shows l D cJ cI cG cZ ad E nf T hn hs rt dn wm cr pf pl O ol r8 Lh sz Lp (tl_lg (xs ((7 * k) + 1)) (xs ((7 * k) + 2))) (xs ((7 * k) + 3)) (xs ((7 * k) + 4)) (tl_lg (xs ((7 * k) + 5)) (xs ((7 * k) + 6)))  hH) (⟨tl_cB hw tl_m173 tl_m1 tl_m170 dd_T_shows rfl rfl ⟨Nat.le_of_ble_eq_true rfl, Nat.le_of_ble_eq_true rfl⟩, hw _ tl_m171, hw _ tl_m172⟩) (tl_preV hE hP (va_recv (q0 := 0) (ci := 0) (q := (R_T, F_T, 5)) hE.1 hP rfl rfl)) rfl rfl hl.1 rfl (lv_room (Nat.le_of_ble_eq_true rfl)) d_L_law_689 ⟨Nat.le_of_ble_eq_true rfl, Nat.le_of_ble_eq_true rfl⟩) ?_
  have hX := hX0
  refine lv_aload_n hx hb d_L_law_692 rfl (lv_at hl 3 rfl) ?_
  refine lv_aload_n hx hb d_L_law_693 rfl (lv_at hl 1 rfl) ?_
  refine lv_iload_n hx hb d_L_law_694 rfl (lv_at hl 0 rfl) ?_
  refine lv_iconst (v := (nI (1))) hx hb d_L_law_695 (by decide) ?_
  refine lv_iadd hx hb d_L_law_696 ?_
  refine lv_topi (nm_r (e' := (nI ((7 * k) + 1))) (nI_add _ _) ?_)
  refine tl_sld (a := ((7 * k) + 1)) hx hb hXs hbl hS (by omega) hL d_L_law_697 ?_
  refine lv_i2l (v := ((xs ((7 * k) + 1)).toInt64)) hx hb d_L_law_698 rfl ?_
  refine lv_bipush (v := (nI (32))) hx hb d_L_law_699 (by decide) ?_
  refine lv_lshl (v := (((xs ((7 * k) + 1)).toInt64) <<< ((nI (32)).toInt64 &&& 63))) hx hb d_L_law_701 rfl ?_
  refine lv_aload_n hx hb d_L_law_702 rfl (lv_at hl 1 rfl) ?_
  refine lv_iload_n hx hb d_L_law_703 rfl (lv_at hl 0 rfl) ?_
  refine lv_iconst (v := (nI (2))) hx hb d_L_law_704 (by decide) ?_
  refine lv_iadd hx hb d_L_law_705 ?_
  refine lv_topi (nm_r (e' := (nI ((7 * k) + 2))) (nI_add _ _) ?_)
  refine tl_sld (a := ((7 * k) + 2)) hx hb hXs hbl hS (by omega) hL d_L_law_706 ?_
  refine lv_i2l (v := ((xs ((7 * k) + 2)).toInt64)) hx hb d_L_law_707 rfl ?_
  refine lv_ldc2 (v := 4294967295) hx hb hown (hw _ tl_m352) d_L_law_708 ?_
  refine lv_land hx hb d_L_law_711 ?_
  refine lv_lor hx hb d_L_law_712 ?_
  refine lv_topl (nm_r (e' := (tl_lg (xs ((7 * k) + 1)) (xs ((7 * k) + 2)))) (rfl) ?_)
  refine lv_aload_n hx hb d_L_law_713 rfl (lv_at hl 1 rfl) ?_
  refine lv_iload_n hx hb d_L_law_714 rfl (lv_at hl 0 rfl) ?_
  refine lv_iconst (v := (nI (3))) hx hb d_L_law_715 (by decide) ?_
  refine lv_iadd hx hb d_L_law_716 ?_
  refine lv_topi (nm_r (e' := (nI ((7 * k) + 3))) (nI_add _ _) ?_)
  refine tl_sld (a := ((7 * k) + 3)) hx hb hXs hbl hS (by omega) hL d_L_law_717 ?_
  refine lv_aload_n hx hb d_L_law_718 rfl (lv_at hl 1 rfl) ?_
  refine lv_iload_n hx hb d_L_law_719 rfl (lv_at hl 0 rfl) ?_
  refine lv_iconst (v := (nI (4))) hx hb d_L_law_720 (by decide) ?_
  refine lv_iadd hx hb d_L_law_721 ?_
  refine lv_topi (nm_r (e' := (nI ((7 * k) + 4))) (nI_add _ _) ?_)
  refine tl_sld (a := ((7 * k) + 4)) hx hb hXs hbl hS (by omega) hL d_L_law_722 ?_
  refine lv_aload_n hx hb d_L_law_723 rfl (lv_at hl 1 rfl) ?_
  refine lv_iload_n hx hb d_L_law_724 rfl (lv_at hl 0 rfl) ?_
  refine lv_iconst (v := (nI (5))) hx hb d_L_law_725 (by decide) ?_
  refine lv_iadd hx hb d_L_law_726 ?_
  refine lv_topi (nm_r (e' := (nI ((7 * k) + 5))) (nI_add _ _) ?_)
  refine tl_sld (a := ((7 * k) + 5)) hx hb hXs hbl hS (by omega) hL d_L_law_727 ?_
  refine lv_i2l (v := ((xs ((7 * k) + 5)).toInt64)) hx hb d_L_law_728 rfl ?_
  refine lv_bipush (v := (nI (32))) hx hb d_L_law_729 (by decide) ?_
  refine lv_lshl (v := (((xs ((7 * k) + 5)).toInt64) <<< ((nI (32)).toInt64 &&& 63))) hx hb d_L_law_731 rfl ?_
  refine lv_aload_n hx hb d_L_law_732 rfl (lv_at hl 1 rfl) ?_
  refine lv_iload_n hx hb d_L_law_733 rfl (lv_at hl 0 rfl) ?_
  refine lv_bipush (v := (nI (6))) hx hb d_L_law_734 (by decide) ?_
  refine lv_iadd hx hb d_L_law_736 ?_
  refine lv_topi (nm_r (e' := (nI ((7 * k) + 6))) (nI_add _ _) ?_)
  refine tl_sld (a := ((7 * k) + 6)) hx hb hXs hbl hS (by omega) hL d_L_law_737 ?_
  refine lv_i2l (v := ((xs ((7 * k) + 6)).toInt64)) hx hb d_L_law_738 rfl ?_
  refine lv_ldc2 (v := 4294967295) hx hb hown (hw _ tl_m352) d_L_law_739 ?_
  refine lv_land hx hb d_L_law_742 ?_
  refine lv_lor hx hb d_L_law_743 ?_
  refine lv_topl (nm_r (e' := (tl_lg (xs ((7 * k) + 5)) (xs ((7 * k) + 6)))) (rfl) ?_)
  have hY0 := hY
  obtain ⟨tf2, hn2, hs2, cd2, pf2, pl2, rw2, rl2, wh2, th2, hG, hP2⟩ := hY
  refine tl_goI (v := (tl_bi (tl_shA O ol (tl_lg (xs ((7 * k) + 1)) (xs ((7 * k) + 2))) (xs ((7 * k) + 3)) (xs ((7 * k) + 4)) (tl_lg (xs ((7 * k) + 5)) (xs ((7 * k) + 6)))))) (va_runV (As := [.long (tl_lg (xs ((7 * k) + 1)) (xs ((7 * k) + 2))), .int (xs ((7 * k) + 3)), .int (xs ((7 * k) + 4)), .long (tl_lg (xs ((7 * k) + 5)) (xs ((7 * k) + 6)))]) (rest := [.int (tl_bi (tl_shA O ol (tl_lg (xs ((7 * k) + 1)) (xs ((7 * k) + 2))) (xs ((7 * k) + 3)) (xs ((7 * k) + 4)) (tl_lg (xs ((7 * k) + 5)) (xs ((7 * k) + 6)))))]) ⟨hx, hb, hml, hown, hw⟩ (c_M_shows l D cJ cI cG cZ bd E nf tf2 hn2 hs2 rt dn wm cr cd2 pf2 pl2 O ol rw2 rl2 wh2 th2 Lh sz Lp T (tl_lg (xs ((7 * k) + 1)) (xs ((7 * k) + 2))) (xs ((7 * k) + 3)) (xs ((7 * k) + 4)) (tl_lg (xs ((7 * k) + 5)) (xs ((7 * k) + 6)))  hG) (⟨tl_cB hw tl_m340 tl_m3 tl_m337 dd_M_shows rfl rfl ⟨Nat.le_of_ble_eq_true rfl, Nat.le_of_ble_eq_true rfl⟩, hw _ tl_m338, hw _ tl_m339⟩) (tl_preV hE hP2 (va_recv (q0 := 0) (ci := 2) (q := (R_M, F_M, 18)) hE.1 hP2 rfl rfl)) rfl rfl hl.1 rfl (lv_room (Nat.le_of_ble_eq_true rfl)) d_L_law_744 ⟨Nat.le_of_ble_eq_true rfl, Nat.le_of_ble_eq_true rfl⟩) ?_
  have hY := hY0
  refine lv_icmp_eq (tgt := 867) hx hb d_L_law_747 (by decide) (fun _ => ?_) (fun h => absurd rfl h)
  exact kk ls _ _ _ hl hS hX hY (Nat.le_succ_of_le hlat)

set_option maxHeartbeats 4000000 in
set_option maxRecDepth 100000 in
theorem law_case_19 {p : Program} {l : Launch} {e : Env} {s : State} {m : MethodId} {below : List Frame} {meth : Method} {c : Code} {Q : State → Prop} {b L : Nat} {xs : Nat → Int32} {D : va_G} {cJ cI cG cZ : ClassId} {ad bd : Nat → Nat} (C1 : tl_Law p s m meth c b L xs D cJ cI cG cZ ad bd) (hL : L ≤ 3584) {k : Nat} (hk7 : 7 * k + 7 ≤ L) {S : tl_S} {ls : Array Slot} {H : Heap} {locs : List Loc} (hl : lv_has ls 4 [(3, .int (nI (7 * k))), (0, .ref b), (1, .ref (ad 0)), (2, .ref (bd 0))]) (hS : va_S (fun q => s.heap.size ≤ q) s.heap H locs) (hX : tl_X D cJ cI cG ad S H) (hY : tl_Y D cJ cI cZ bd S H) (hlat : tl_lat S ≤ k) (kk : ∀ (ls1 : Array Slot) (H1 : Heap) (locs1 : List Loc) (S1 : tl_S), lv_has ls1 4 [(3, .int (nI (7 * k))), (0, .ref b), (1, .ref (ad 0)), (2, .ref (bd 0))] → va_S (fun q => s.heap.size ≤ q) s.heap H1 locs1 → tl_X D cJ cI cG ad S1 H1 → tl_Y D cJ cI cZ bd S1 H1 → tl_lat S1 ≤ k + 1 → W p l e room_1 s m #[Value.ref b] below meth c H1 locs1 600000 7302250 Q (F0 m 867 ls1 [])) : W p l e room_1 s m #[Value.ref b] below meth c H locs 600000 7302250 Q (F0 m 752 ls []) := by
  obtain ⟨hx, hb, hml, hown, hw, hXs, hbl, hE, hapA, hapB, hdj, hinA, hinB⟩ := C1
  obtain ⟨E, nf, T, Lh, sz, rt, dn, wm, cr, Lp, ol, O⟩ := S
  have hlat0 : Lh ≤ k := hlat
  refine lv_aload_n hx hb d_L_law_752 rfl (lv_at hl 2 rfl) ?_
  refine lv_aload_n hx hb d_L_law_753 rfl (lv_at hl 1 rfl) ?_
  refine lv_iload_n hx hb d_L_law_754 rfl (lv_at hl 0 rfl) ?_
  refine lv_iconst (v := (nI (1))) hx hb d_L_law_755 (by decide) ?_
  refine lv_iadd hx hb d_L_law_756 ?_
  refine lv_topi (nm_r (e' := (nI ((7 * k) + 1))) (nI_add _ _) ?_)
  refine tl_sld (a := ((7 * k) + 1)) hx hb hXs hbl hS (by omega) hL d_L_law_757 ?_
  refine lv_aload_n hx hb d_L_law_758 rfl (lv_at hl 1 rfl) ?_
  refine lv_iload_n hx hb d_L_law_759 rfl (lv_at hl 0 rfl) ?_
  refine lv_iconst (v := (nI (2))) hx hb d_L_law_760 (by decide) ?_
  refine lv_iadd hx hb d_L_law_761 ?_
  refine lv_topi (nm_r (e' := (nI ((7 * k) + 2))) (nI_add _ _) ?_)
  refine tl_sld (a := ((7 * k) + 2)) hx hb hXs hbl hS (by omega) hL d_L_law_762 ?_
  refine lv_aload_n hx hb d_L_law_763 rfl (lv_at hl 1 rfl) ?_
  refine lv_iload_n hx hb d_L_law_764 rfl (lv_at hl 0 rfl) ?_
  refine lv_iconst (v := (nI (3))) hx hb d_L_law_765 (by decide) ?_
  refine lv_iadd hx hb d_L_law_766 ?_
  refine lv_topi (nm_r (e' := (nI ((7 * k) + 3))) (nI_add _ _) ?_)
  refine tl_sld (a := ((7 * k) + 3)) hx hb hXs hbl hS (by omega) hL d_L_law_767 ?_
  refine lv_i2l (v := ((xs ((7 * k) + 3)).toInt64)) hx hb d_L_law_768 rfl ?_
  refine lv_bipush (v := (nI (32))) hx hb d_L_law_769 (by decide) ?_
  refine lv_lshl (v := (((xs ((7 * k) + 3)).toInt64) <<< ((nI (32)).toInt64 &&& 63))) hx hb d_L_law_771 rfl ?_
  refine lv_aload_n hx hb d_L_law_772 rfl (lv_at hl 1 rfl) ?_
  refine lv_iload_n hx hb d_L_law_773 rfl (lv_at hl 0 rfl) ?_
  refine lv_iconst (v := (nI (4))) hx hb d_L_law_774 (by decide) ?_
  refine lv_iadd hx hb d_L_law_775 ?_
  refine lv_topi (nm_r (e' := (nI ((7 * k) + 4))) (nI_add _ _) ?_)
  refine tl_sld (a := ((7 * k) + 4)) hx hb hXs hbl hS (by omega) hL d_L_law_776 ?_
  refine lv_i2l (v := ((xs ((7 * k) + 4)).toInt64)) hx hb d_L_law_777 rfl ?_
  refine lv_ldc2 (v := 4294967295) hx hb hown (hw _ tl_m352) d_L_law_778 ?_
  refine lv_land hx hb d_L_law_781 ?_
  refine lv_lor hx hb d_L_law_782 ?_
  refine lv_topl (nm_r (e' := (tl_lg (xs ((7 * k) + 3)) (xs ((7 * k) + 4)))) (rfl) ?_)
  refine lv_aload_n hx hb d_L_law_783 rfl (lv_at hl 1 rfl) ?_
  refine lv_iload_n hx hb d_L_law_784 rfl (lv_at hl 0 rfl) ?_
  refine lv_iconst (v := (nI (5))) hx hb d_L_law_785 (by decide) ?_
  refine lv_iadd hx hb d_L_law_786 ?_
  refine lv_topi (nm_r (e' := (nI ((7 * k) + 5))) (nI_add _ _) ?_)
  refine tl_sld (a := ((7 * k) + 5)) hx hb hXs hbl hS (by omega) hL d_L_law_787 ?_
  refine lv_i2l (v := ((xs ((7 * k) + 5)).toInt64)) hx hb d_L_law_788 rfl ?_
  refine lv_bipush (v := (nI (32))) hx hb d_L_law_789 (by decide) ?_
  refine lv_lshl (v := (((xs ((7 * k) + 5)).toInt64) <<< ((nI (32)).toInt64 &&& 63))) hx hb d_L_law_791 rfl ?_
  refine lv_aload_n hx hb d_L_law_792 rfl (lv_at hl 1 rfl) ?_
  refine lv_iload_n hx hb d_L_law_793 rfl (lv_at hl 0 rfl) ?_
  refine lv_bipush (v := (nI (6))) hx hb d_L_law_794 (by decide) ?_
  refine lv_iadd hx hb d_L_law_796 ?_
  refine lv_topi (nm_r (e' := (nI ((7 * k) + 6))) (nI_add _ _) ?_)
  refine tl_sld (a := ((7 * k) + 6)) hx hb hXs hbl hS (by omega) hL d_L_law_797 ?_
  refine lv_i2l (v := ((xs ((7 * k) + 6)).toInt64)) hx hb d_L_law_798 rfl ?_
  refine lv_ldc2 (v := 4294967295) hx hb hown (hw _ tl_m352) d_L_law_799 ?_
  refine lv_land hx hb d_L_law_802 ?_
  refine lv_lor hx hb d_L_law_803 ?_
  refine lv_topl (nm_r (e' := (tl_lg (xs ((7 * k) + 5)) (xs ((7 * k) + 6)))) (rfl) ?_)
  have hX0 := hX
  obtain ⟨hn, hs, pf, pl, r8, hH, hP⟩ := hX
  refine tl_goI (v := (tl_bi (tl_ldA O ol (xs ((7 * k) + 1)) (xs ((7 * k) + 2)) (tl_lg (xs ((7 * k) + 3)) (xs ((7 * k) + 4))) (tl_lg (xs ((7 * k) + 5)) (xs ((7 * k) + 6)))))) (va_runV (As := [.int (xs ((7 * k) + 1)), .int (xs ((7 * k) + 2)), .long (tl_lg (xs ((7 * k) + 3)) (xs ((7 * k) + 4))), .long (tl_lg (xs ((7 * k) + 5)) (xs ((7 * k) + 6)))]) (rest := []) ⟨hx, hb, hml, hown, hw⟩ (c_T_leads l D cJ cI cG cZ ad E nf T hn hs rt dn wm cr pf pl O ol r8 Lh sz Lp (xs ((7 * k) + 1)) (xs ((7 * k) + 2)) (tl_lg (xs ((7 * k) + 3)) (xs ((7 * k) + 4))) (tl_lg (xs ((7 * k) + 5)) (xs ((7 * k) + 6)))  hH) (⟨tl_cB hw tl_m187 tl_m1 tl_m184 dd_T_leads rfl rfl ⟨Nat.le_of_ble_eq_true rfl, Nat.le_of_ble_eq_true rfl⟩, hw _ tl_m185, hw _ tl_m186⟩) (tl_preV hE hP (va_recv (q0 := 0) (ci := 0) (q := (R_T, F_T, 5)) hE.1 hP rfl rfl)) rfl rfl hl.1 rfl (lv_room (Nat.le_of_ble_eq_true rfl)) d_L_law_804 ⟨Nat.le_of_ble_eq_true rfl, Nat.le_of_ble_eq_true rfl⟩) ?_
  have hX := hX0
  refine lv_aload_n hx hb d_L_law_807 rfl (lv_at hl 3 rfl) ?_
  refine lv_aload_n hx hb d_L_law_808 rfl (lv_at hl 1 rfl) ?_
  refine lv_iload_n hx hb d_L_law_809 rfl (lv_at hl 0 rfl) ?_
  refine lv_iconst (v := (nI (1))) hx hb d_L_law_810 (by decide) ?_
  refine lv_iadd hx hb d_L_law_811 ?_
  refine lv_topi (nm_r (e' := (nI ((7 * k) + 1))) (nI_add _ _) ?_)
  refine tl_sld (a := ((7 * k) + 1)) hx hb hXs hbl hS (by omega) hL d_L_law_812 ?_
  refine lv_aload_n hx hb d_L_law_813 rfl (lv_at hl 1 rfl) ?_
  refine lv_iload_n hx hb d_L_law_814 rfl (lv_at hl 0 rfl) ?_
  refine lv_iconst (v := (nI (2))) hx hb d_L_law_815 (by decide) ?_
  refine lv_iadd hx hb d_L_law_816 ?_
  refine lv_topi (nm_r (e' := (nI ((7 * k) + 2))) (nI_add _ _) ?_)
  refine tl_sld (a := ((7 * k) + 2)) hx hb hXs hbl hS (by omega) hL d_L_law_817 ?_
  refine lv_aload_n hx hb d_L_law_818 rfl (lv_at hl 1 rfl) ?_
  refine lv_iload_n hx hb d_L_law_819 rfl (lv_at hl 0 rfl) ?_
  refine lv_iconst (v := (nI (3))) hx hb d_L_law_820 (by decide) ?_
  refine lv_iadd hx hb d_L_law_821 ?_
  refine lv_topi (nm_r (e' := (nI ((7 * k) + 3))) (nI_add _ _) ?_)
  refine tl_sld (a := ((7 * k) + 3)) hx hb hXs hbl hS (by omega) hL d_L_law_822 ?_
  refine lv_i2l (v := ((xs ((7 * k) + 3)).toInt64)) hx hb d_L_law_823 rfl ?_
  refine lv_bipush (v := (nI (32))) hx hb d_L_law_824 (by decide) ?_
  refine lv_lshl (v := (((xs ((7 * k) + 3)).toInt64) <<< ((nI (32)).toInt64 &&& 63))) hx hb d_L_law_826 rfl ?_
  refine lv_aload_n hx hb d_L_law_827 rfl (lv_at hl 1 rfl) ?_
  refine lv_iload_n hx hb d_L_law_828 rfl (lv_at hl 0 rfl) ?_
  refine lv_iconst (v := (nI (4))) hx hb d_L_law_829 (by decide) ?_
  refine lv_iadd hx hb d_L_law_830 ?_
  refine lv_topi (nm_r (e' := (nI ((7 * k) + 4))) (nI_add _ _) ?_)
  refine tl_sld (a := ((7 * k) + 4)) hx hb hXs hbl hS (by omega) hL d_L_law_831 ?_
  refine lv_i2l (v := ((xs ((7 * k) + 4)).toInt64)) hx hb d_L_law_832 rfl ?_
  refine lv_ldc2 (v := 4294967295) hx hb hown (hw _ tl_m352) d_L_law_833 ?_
  refine lv_land hx hb d_L_law_836 ?_
  refine lv_lor hx hb d_L_law_837 ?_
  refine lv_topl (nm_r (e' := (tl_lg (xs ((7 * k) + 3)) (xs ((7 * k) + 4)))) (rfl) ?_)
  refine lv_aload_n hx hb d_L_law_838 rfl (lv_at hl 1 rfl) ?_
  refine lv_iload_n hx hb d_L_law_839 rfl (lv_at hl 0 rfl) ?_
  refine lv_iconst (v := (nI (5))) hx hb d_L_law_840 (by decide) ?_
  refine lv_iadd hx hb d_L_law_841 ?_
  refine lv_topi (nm_r (e' := (nI ((7 * k) + 5))) (nI_add _ _) ?_)
  refine tl_sld (a := ((7 * k) + 5)) hx hb hXs hbl hS (by omega) hL d_L_law_842 ?_
  refine lv_i2l (v := ((xs ((7 * k) + 5)).toInt64)) hx hb d_L_law_843 rfl ?_
  refine lv_bipush (v := (nI (32))) hx hb d_L_law_844 (by decide) ?_
  refine lv_lshl (v := (((xs ((7 * k) + 5)).toInt64) <<< ((nI (32)).toInt64 &&& 63))) hx hb d_L_law_846 rfl ?_
  refine lv_aload_n hx hb d_L_law_847 rfl (lv_at hl 1 rfl) ?_
  refine lv_iload_n hx hb d_L_law_848 rfl (lv_at hl 0 rfl) ?_
  refine lv_bipush (v := (nI (6))) hx hb d_L_law_849 (by decide) ?_
  refine lv_iadd hx hb d_L_law_851 ?_
  refine lv_topi (nm_r (e' := (nI ((7 * k) + 6))) (nI_add _ _) ?_)
  refine tl_sld (a := ((7 * k) + 6)) hx hb hXs hbl hS (by omega) hL d_L_law_852 ?_
  refine lv_i2l (v := ((xs ((7 * k) + 6)).toInt64)) hx hb d_L_law_853 rfl ?_
  refine lv_ldc2 (v := 4294967295) hx hb hown (hw _ tl_m352) d_L_law_854 ?_
  refine lv_land hx hb d_L_law_857 ?_
  refine lv_lor hx hb d_L_law_858 ?_
  refine lv_topl (nm_r (e' := (tl_lg (xs ((7 * k) + 5)) (xs ((7 * k) + 6)))) (rfl) ?_)
  have hY0 := hY
  obtain ⟨tf2, hn2, hs2, cd2, pf2, pl2, rw2, rl2, wh2, th2, hG, hP2⟩ := hY
  refine tl_doI (v := (tl_bi (tl_ldA O ol (xs ((7 * k) + 1)) (xs ((7 * k) + 2)) (tl_lg (xs ((7 * k) + 3)) (xs ((7 * k) + 4))) (tl_lg (xs ((7 * k) + 5)) (xs ((7 * k) + 6)))))) (va_runV (As := [.int (xs ((7 * k) + 1)), .int (xs ((7 * k) + 2)), .long (tl_lg (xs ((7 * k) + 3)) (xs ((7 * k) + 4))), .long (tl_lg (xs ((7 * k) + 5)) (xs ((7 * k) + 6)))]) (rest := [.int (tl_bi (tl_ldA O ol (xs ((7 * k) + 1)) (xs ((7 * k) + 2)) (tl_lg (xs ((7 * k) + 3)) (xs ((7 * k) + 4))) (tl_lg (xs ((7 * k) + 5)) (xs ((7 * k) + 6)))))]) ⟨hx, hb, hml, hown, hw⟩ (c_M_leads l D cJ cI cG cZ bd E nf tf2 hn2 hs2 rt dn wm cr cd2 pf2 pl2 O ol rw2 rl2 wh2 th2 Lh sz Lp T (xs ((7 * k) + 1)) (xs ((7 * k) + 2)) (tl_lg (xs ((7 * k) + 3)) (xs ((7 * k) + 4))) (tl_lg (xs ((7 * k) + 5)) (xs ((7 * k) + 6))) hapB hG) (⟨tl_cB hw tl_m348 tl_m3 tl_m345 dd_M_leads rfl rfl ⟨Nat.le_of_ble_eq_true rfl, Nat.le_of_ble_eq_true rfl⟩, hw _ tl_m346, hw _ tl_m347⟩) (tl_preV hE hP2 (va_recv (q0 := 0) (ci := 2) (q := (R_M, F_M, 18)) hE.1 hP2 rfl rfl)) rfl rfl hl.1 rfl (lv_room (Nat.le_of_ble_eq_true rfl)) d_L_law_859 ⟨Nat.le_of_ble_eq_true rfl, Nat.le_of_ble_eq_true rfl⟩) hS hinB (fun H2 locs2 hY2 hS2 hk2 => ?_)
  have hX2 := tl_X_kept hX hdj hk2
  clear hX hS hk2
  have hX := hX2
  have hY : tl_Y D cJ cI cZ bd (E, nf, T, Lh, sz, rt, dn, wm, cr, Lp, ol, O) H2 := hY2
  have hS := hS2
  refine lv_icmp_eq (tgt := 867) hx hb d_L_law_862 (by decide) (fun _ => ?_) (fun h => absurd rfl h)
  exact kk ls _ _ _ hl hS hX hY (Nat.le_succ_of_le hlat)
