theorem tl_more {L k : Nat} (hL : L ≤ 3584) (hk : 7 * k ≤ L) (h : ¬ (nI L - nI 7) < nI (7 * k)) : 7 * k + 7 ≤ L := by
  apply Nat.le_of_not_lt
  intro q
  apply h
  rw [Int32.lt_iff_toInt_lt, pk_sub_toInt (by omega) (by omega), nI_toInt (by omega)]
  omega
set_option maxHeartbeats 4000000 in
set_option maxRecDepth 100000 in
theorem tl_loop {p : Program} {l : Launch} {e : Env} {s : State} {m : MethodId} {below : List Frame} {meth : Method} {c : Code} {b L : Nat} {xs : Nat → Int32} {D : va_G} {cJ cI cG cZ : ClassId} {ad bd : Nat → Nat} (C1 : tl_Law p s m meth c b L xs D cJ cI cG cZ ad bd) (hr : meth.sig.returnType = ret) (hlocks : meth.locks = false) (hL : L ≤ 3584) : ∀ (n : Nat) (ls : Array Slot) (H : Heap) (locs : List Loc), (∃ (k : Nat) (S : tl_S), lv_has ls 4 [(3, .int (nI (7 * k))), (0, .ref b), (1, .ref (ad 0)), (2, .ref (bd 0))] ∧ va_S (fun q => s.heap.size ≤ q) s.heap H locs ∧ tl_X D cJ cI cG ad S H ∧ tl_Y D cJ cI cZ bd S H ∧ tl_lat S ≤ k ∧ 7 * k ≤ L ∧ n = 513 - k) → W p l e room_1 s m #[Value.ref b] below meth c H locs 600000 7302250 (lw_Z below #[Value.ref b] s) (F0 m 18 ls []) := by
  refine tl_loopW (fun n ls H locs => ∃ (k : Nat) (S : tl_S), lv_has ls 4 [(3, .int (nI (7 * k))), (0, .ref b), (1, .ref (ad 0)), (2, .ref (bd 0))] ∧ va_S (fun q => s.heap.size ≤ q) s.heap H locs ∧ tl_X D cJ cI cG ad S H ∧ tl_Y D cJ cI cZ bd S H ∧ tl_lat S ≤ k ∧ 7 * k ≤ L ∧ n = 513 - k) (fun n ls H locs hI ih => ?_)
  obtain ⟨k, S, hl, hS, hX, hY, hlat, hk, hn⟩ := hI
  have C2 := C1
  obtain ⟨hx, hb, hml, hown, hw, hXs, hbl, hE, hapA, hapB, hdj, hinA, hinB⟩ := C2
  refine lv_iload_n hx hb d_L_law_18 rfl (lv_at hl 0 rfl) ?_
  refine lv_aload_n hx hb d_L_law_19 rfl (lv_at hl 1 rfl) ?_
  refine va_slen hx hb hXs hbl (Nat.not_le.mpr hbl) hS d_L_law_20 ?_
  refine lv_bipush (v := nI 7) hx hb d_L_law_21 (by decide) ?_
  refine lv_isub hx hb d_L_law_23 ?_
  refine lv_icmp_gt (tgt := 873) hx hb d_L_law_24 (by decide) (fun _ => ?_) (fun h24 => ?_)
  · refine lv_iconst (v := 1) hx hb d_L_law_873 (by decide) ?_
    refine va_forget hS.2.2 ?_
    exact lw_ret hx hb hr hlocks d_L_law_874
  · have hk7 : 7 * k + 7 ≤ L := tl_more hL hk h24
    have kk : ∀ (ls1 : Array Slot) (H1 : Heap) (locs1 : List Loc) (S1 : tl_S), lv_has ls1 4 [(3, .int (nI (7 * k))), (0, .ref b), (1, .ref (ad 0)), (2, .ref (bd 0))] → va_S (fun q => s.heap.size ≤ q) s.heap H1 locs1 → tl_X D cJ cI cG ad S1 H1 → tl_Y D cJ cI cZ bd S1 H1 → tl_lat S1 ≤ k + 1 → W p l e room_1 s m #[Value.ref b] below meth c H1 locs1 600000 7302250 (lw_Z below #[Value.ref b] s) (F0 m 867 ls1 []) := by
      intro ls1 H1 locs1 S1 hl1 hS1 hX1 hY1 hlat1
      refine lv_iinc (k := 0) (v := nI (7 * (k + 1))) (lv' := [(3, .int (nI (7 * (k + 1)))), (0, .ref b), (1, .ref (ad 0)), (2, .ref (bd 0))]) hx hb d_L_law_867 hl1 rfl (nI_add (7 * k) 7) (by decide) rfl (fun ls2 hl2 => ?_)
      refine lv_goto (tgt := 18) hx hb d_L_law_870 (by decide) ?_
      exact ih (n - 1) ls2 H1 locs1 (by omega) ⟨k + 1, S1, hl2, hS1, hX1, hY1, hlat1, by omega, by omega⟩
    refine lv_aload_n hx hb d_L_law_27 rfl (lv_at hl 1 rfl) ?_
    refine lv_iload_n hx hb d_L_law_28 rfl (lv_at hl 0 rfl) ?_
    refine tl_sld (a := 7 * k) hx hb hXs hbl hS (by omega) hL d_L_law_29 ?_
    refine lv_bipush (v := nI 31) hx hb d_L_law_30 (by decide) ?_
    refine lv_iand hx hb d_L_law_32 ?_
    obtain ⟨j, hj, ej⟩ := pk_andE (xs (7 * k)) (m := nI 31) 5 (by decide)
    refine lv_topi (nm_r ej ?_)
    by_cases h20 : j < 20
    · rcases (show j = 0 ∨ j = 1 ∨ j = 2 ∨ j = 3 ∨ j = 4 ∨ j = 5 ∨ j = 6 ∨ j = 7 ∨ j = 8 ∨ j = 9 ∨ j = 10 ∨ j = 11 ∨ j = 12 ∨ j = 13 ∨ j = 14 ∨ j = 15 ∨ j = 16 ∨ j = 17 ∨ j = 18 ∨ j = 19 by omega) with rfl | rfl | rfl | rfl | rfl | rfl | rfl | rfl | rfl | rfl | rfl | rfl | rfl | rfl | rfl | rfl | rfl | rfl | rfl | rfl
      · refine lv_tableIn (tgt := 128) (off := 95) hx hb d_L_law_33 (by decide) (by decide) (by decide) (by decide) ?_
        exact law_case_0 C1 hL hk7 hl hS hX hY hlat kk
      · refine lv_tableIn (tgt := 181) (off := 148) hx hb d_L_law_33 (by decide) (by decide) (by decide) (by decide) ?_
        exact law_case_1 C1 hL hk7 hl hS hX hY hlat kk
      · refine lv_tableIn (tgt := 194) (off := 161) hx hb d_L_law_33 (by decide) (by decide) (by decide) (by decide) ?_
        exact law_case_2 C1 hL hk7 hl hS hX hY hlat kk
      · refine lv_tableIn (tgt := 217) (off := 184) hx hb d_L_law_33 (by decide) (by decide) (by decide) (by decide) ?_
        exact law_case_3 C1 hL hk7 hl hS hX hY hlat kk
      · refine lv_tableIn (tgt := 230) (off := 197) hx hb d_L_law_33 (by decide) (by decide) (by decide) (by decide) ?_
        exact law_case_4 C1 hL hk7 hl hS hX hY hlat kk
      · refine lv_tableIn (tgt := 243) (off := 210) hx hb d_L_law_33 (by decide) (by decide) (by decide) (by decide) ?_
        exact law_case_5 C1 hL hk7 hl hS hX hY hlat kk
      · refine lv_tableIn (tgt := 256) (off := 223) hx hb d_L_law_33 (by decide) (by decide) (by decide) (by decide) ?_
        exact law_case_6 C1 hL hk7 hl hS hX hY hlat kk
      · refine lv_tableIn (tgt := 279) (off := 246) hx hb d_L_law_33 (by decide) (by decide) (by decide) (by decide) ?_
        exact law_case_7 C1 hL hk7 hl hS hX hY hlat kk
      · refine lv_tableIn (tgt := 303) (off := 270) hx hb d_L_law_33 (by decide) (by decide) (by decide) (by decide) ?_
        exact law_case_8 C1 hL hk7 hl hS hX hY hlat kk
      · refine lv_tableIn (tgt := 316) (off := 283) hx hb d_L_law_33 (by decide) (by decide) (by decide) (by decide) ?_
        exact law_case_9 C1 hL hk7 hl hS hX hY hlat kk
      · refine lv_tableIn (tgt := 360) (off := 327) hx hb d_L_law_33 (by decide) (by decide) (by decide) (by decide) ?_
        exact law_case_10 C1 hL hk7 hl hS hX hY hlat kk
      · refine lv_tableIn (tgt := 384) (off := 351) hx hb d_L_law_33 (by decide) (by decide) (by decide) (by decide) ?_
        exact law_case_11 C1 hL hk7 hl hS hX hY hlat kk
      · refine lv_tableIn (tgt := 437) (off := 404) hx hb d_L_law_33 (by decide) (by decide) (by decide) (by decide) ?_
        exact law_case_12 C1 hL hk7 hl hS hX hY hlat kk
      · refine lv_tableIn (tgt := 461) (off := 428) hx hb d_L_law_33 (by decide) (by decide) (by decide) (by decide) ?_
        exact law_case_13 C1 hL hk7 hl hS hX hY hlat kk
      · refine lv_tableIn (tgt := 494) (off := 461) hx hb d_L_law_33 (by decide) (by decide) (by decide) (by decide) ?_
        exact law_case_14 C1 hL hk7 hl hS hX hY hlat kk
      · refine lv_tableIn (tgt := 527) (off := 494) hx hb d_L_law_33 (by decide) (by decide) (by decide) (by decide) ?_
        exact law_case_15 C1 hL hk7 hl hS hX hY hlat kk
      · refine lv_tableIn (tgt := 551) (off := 518) hx hb d_L_law_33 (by decide) (by decide) (by decide) (by decide) ?_
        exact law_case_16 C1 hL hk7 hl hS hX hY hlat kk
      · refine lv_tableIn (tgt := 614) (off := 581) hx hb d_L_law_33 (by decide) (by decide) (by decide) (by decide) ?_
        exact law_case_17 C1 hL hk7 hl hS hX hY hlat kk
      · refine lv_tableIn (tgt := 637) (off := 604) hx hb d_L_law_33 (by decide) (by decide) (by decide) (by decide) ?_
        exact law_case_18 C1 hL hk7 hl hS hX hY hlat kk
      · refine lv_tableIn (tgt := 752) (off := 719) hx hb d_L_law_33 (by decide) (by decide) (by decide) (by decide) ?_
        exact law_case_19 C1 hL hk7 hl hS hX hY hlat kk
    · refine lv_tableOut (tgt := 867) hx hb d_L_law_33 (Or.inr (by rw [nI_toInt (by omega)]; omega)) (by decide) ?_
      exact kk ls H locs S hl hS hX hY (Nat.le_succ_of_le hlat)
