/-! the law's loop, and its beginning -/
theorem lw_40 {c : Nat} (h : c < 40) : c = 0 ∨ c = 1 ∨ c = 2 ∨ c = 3 ∨ c = 4 ∨ c = 5 ∨ c = 6 ∨ c = 7 ∨ c = 8 ∨ c = 9 ∨ c = 10 ∨ c = 11 ∨ c = 12 ∨ c = 13 ∨ c = 14 ∨ c = 15 ∨ c = 16 ∨ c = 17 ∨ c = 18 ∨ c = 19 ∨ c = 20 ∨ c = 21 ∨ c = 22 ∨ c = 23 ∨ c = 24 ∨ c = 25 ∨ c = 26 ∨ c = 27 ∨ c = 28 ∨ c = 29 ∨ c = 30 ∨ c = 31 ∨ c = 32 ∨ c = 33 ∨ c = 34 ∨ c = 35 ∨ c = 36 ∨ c = 37 ∨ c = 38 ∨ c = 39 := by omega
theorem lw_and (x : Int32) : ∃ c, c < 64 ∧ x &&& nI 63 = nI c := by
  have e : x = nI x.toUInt32.toNat := by
    apply Int32.toBitVec_inj.mp
    show x.toBitVec = BitVec.ofNat 32 x.toBitVec.toNat
    rw [BitVec.ofNat_toNat, BitVec.setWidth_eq]
  refine ⟨x.toUInt32.toNat % 2 ^ 6, Nat.mod_lt _ (by decide), ?_⟩
  have h := fa_mask x.toUInt32.toNat 6
  rw [← e] at h
  exact h
set_option maxHeartbeats 1000000 in
set_option maxRecDepth 100000 in
theorem law_loop {G : am_G} {nm : String} (hL : G.2.2.2.2.2.1 ≤ 3584) : ∀ (f : Nat) (A : am_S) (σ : am_M) (i k n : Nat), lw_I A σ → i ≤ G.2.2.2.2.2.1 → G.2.2.2.2.2.1 ≤ i + 7 * f → k + 3 * f + 3 ≤ 659291 → n + 196 * f + 196 ≤ 7124374 → lw_E G nm 18 (lw_V i) σ k n := by
  have hL31 : G.2.2.2.2.2.1 < 2 ^ 31 := by omega
  intro f
  induction f with
  | zero =>
    intro A σ i k n h hi h1 hk hn
    show am_Ev G (mL nm) lw_M 659291 7124374 lw_T 18 [(0, .ref 0), (1, .ref 32), (2, .ref 65), (3, .int (nI i))] [] σ k n
    refine ev_iload_n dL_law_18 rfl rfl ?_
    refine ev_aload_n dL_law_19 rfl rfl ?_
    refine ev_slen (v := nI G.2.2.2.2.2.1) dL_law_20 rfl ?_
    refine ev_bipush (v := nI 7) dL_law_21 (by decide) ?_
    refine ev_isub (v := nI G.2.2.2.2.2.1 - nI 7) dL_law_23 rfl ?_
    refine ev_icmp_gt (tgt := 1598) dL_law_24 (by decide) (fun c1 => ?_) (fun c1 => ?_)
    · refine ev_iconst (v := 1) dL_law_1598 (by decide) ?_
      exact ev_retz dL_law_1599 rfl (Or.inr rfl) (by omega) (by omega) rfl
    · refine absurd ?_ c1
      rw [Int32.lt_iff_toInt_lt, pk_sub_toInt (by omega) (by decide), nI_toInt (by omega)]
      omega
  | succ f ih =>
    intro A σ i k n h hi h1 hk hn
    show am_Ev G (mL nm) lw_M 659291 7124374 lw_T 18 [(0, .ref 0), (1, .ref 32), (2, .ref 65), (3, .int (nI i))] [] σ k n
    refine ev_iload_n dL_law_18 rfl rfl ?_
    refine ev_aload_n dL_law_19 rfl rfl ?_
    refine ev_slen (v := nI G.2.2.2.2.2.1) dL_law_20 rfl ?_
    refine ev_bipush (v := nI 7) dL_law_21 (by decide) ?_
    refine ev_isub (v := nI G.2.2.2.2.2.1 - nI 7) dL_law_23 rfl ?_
    refine ev_icmp_gt (tgt := 1598) dL_law_24 (by decide) (fun c1 => ?_) (fun c1 => ?_)
    · refine ev_iconst (v := 1) dL_law_1598 (by decide) ?_
      exact ev_retz dL_law_1599 rfl (Or.inr rfl) (by omega) (by omega) rfl
    · have h7 : i + 7 ≤ G.2.2.2.2.2.1 := by
        rw [Int32.lt_iff_toInt_lt, pk_sub_toInt (by omega) (by decide), nI_toInt (by omega)] at c1
        omega
      have next : lw_N G nm i k n := fun B τ k' n' hI hk' hn' => by
        show am_Ev G (mL nm) lw_M 659291 7124374 lw_T 1592 [(0, .ref 0), (1, .ref 32), (2, .ref 65), (3, .int (nI i))] [] τ k' n'
        refine ev_iinc (lv' := [(0, .ref 0), (1, .ref 32), (2, .ref 65), (3, .int (nI (i + 7)))]) (v := nI (i + 7)) dL_law_1592 rfl (nI_add i 7) (Nat.le_of_ble_eq_true rfl) rfl ?_
        refine ev_goto (tgt := 18) dL_law_1595 (by decide) ?_
        exact ih B τ (i + 7) k' n' hI (by omega) (by omega) (by omega) (by omega)
      have hk3 : k + 3 ≤ 659291 := by omega
      have hn3 : n + 196 ≤ 7124374 := by omega
      refine ev_aload_n dL_law_27 rfl rfl ?_
      refine ev_iload_n dL_law_28 rfl rfl ?_
      refine ev_sld (j := i) (v := G.2.2.2.2.2.2 i) dL_law_29 (am_ixn (by omega) hL31) rfl ?_
      refine ev_bipush (v := nI 63) dL_law_30 (by decide) ?_
      obtain ⟨c, hc, e⟩ := lw_and (G.2.2.2.2.2.2 i)
      refine ev_iand (v := nI c) dL_law_32 e ?_
      by_cases h40 : c < 40
      · rcases lw_40 h40 with rfl | rfl | rfl | rfl | rfl | rfl | rfl | rfl | rfl | rfl | rfl | rfl | rfl | rfl | rfl | rfl | rfl | rfl | rfl | rfl | rfl | rfl | rfl | rfl | rfl | rfl | rfl | rfl | rfl | rfl | rfl | rfl | rfl | rfl | rfl | rfl | rfl | rfl | rfl | rfl
        · exact ev_tableIn (off := 175) (tgt := 208) dL_law_33 (by decide) (by decide) rfl (by decide) (law_0 h h7 hL31 hk3 hn3 next)
        · exact ev_tableIn (off := 198) (tgt := 231) dL_law_33 (by decide) (by decide) rfl (by decide) (law_1 h h7 hL31 hk3 hn3 next)
        · exact ev_tableIn (off := 273) (tgt := 306) dL_law_33 (by decide) (by decide) rfl (by decide) (law_2 h h7 hL31 hk3 hn3 next)
        · exact ev_tableIn (off := 286) (tgt := 319) dL_law_33 (by decide) (by decide) rfl (by decide) (law_3 h h7 hL31 hk3 hn3 next)
        · exact ev_tableIn (off := 309) (tgt := 342) dL_law_33 (by decide) (by decide) rfl (by decide) (law_4 h h7 hL31 hk3 hn3 next)
        · exact ev_tableIn (off := 372) (tgt := 405) dL_law_33 (by decide) (by decide) rfl (by decide) (law_5 h h7 hL31 hk3 hn3 next)
        · exact ev_tableIn (off := 415) (tgt := 448) dL_law_33 (by decide) (by decide) rfl (by decide) (law_6 h h7 hL31 hk3 hn3 next)
        · exact ev_tableIn (off := 458) (tgt := 491) dL_law_33 (by decide) (by decide) rfl (by decide) (law_7 h h7 hL31 hk3 hn3 next)
        · exact ev_tableIn (off := 491) (tgt := 524) dL_law_33 (by decide) (by decide) rfl (by decide) (law_8 h h7 hL31 hk3 hn3 next)
        · exact ev_tableIn (off := 524) (tgt := 557) dL_law_33 (by decide) (by decide) rfl (by decide) (law_9 h h7 hL31 hk3 hn3 next)
        · exact ev_tableIn (off := 557) (tgt := 590) dL_law_33 (by decide) (by decide) rfl (by decide) (law_10 h h7 hL31 hk3 hn3 next)
        · exact ev_tableIn (off := 590) (tgt := 623) dL_law_33 (by decide) (by decide) rfl (by decide) (law_11 h h7 hL31 hk3 hn3 next)
        · exact ev_tableIn (off := 623) (tgt := 656) dL_law_33 (by decide) (by decide) rfl (by decide) (law_12 h h7 hL31 hk3 hn3 next)
        · exact ev_tableIn (off := 646) (tgt := 679) dL_law_33 (by decide) (by decide) rfl (by decide) (law_13 h h7 hL31 hk3 hn3 next)
        · exact ev_tableIn (off := 689) (tgt := 722) dL_law_33 (by decide) (by decide) rfl (by decide) (law_14 h h7 hL31 hk3 hn3 next)
        · exact ev_tableIn (off := 722) (tgt := 755) dL_law_33 (by decide) (by decide) rfl (by decide) (law_15 h h7 hL31 hk3 hn3 next)
        · exact ev_tableIn (off := 745) (tgt := 778) dL_law_33 (by decide) (by decide) rfl (by decide) (law_16 h h7 hL31 hk3 hn3 next)
        · exact ev_tableIn (off := 778) (tgt := 811) dL_law_33 (by decide) (by decide) rfl (by decide) (law_17 h h7 hL31 hk3 hn3 next)
        · exact ev_tableIn (off := 811) (tgt := 844) dL_law_33 (by decide) (by decide) rfl (by decide) (law_18 h h7 hL31 hk3 hn3 next)
        · exact ev_tableIn (off := 844) (tgt := 877) dL_law_33 (by decide) (by decide) rfl (by decide) (law_19 h h7 hL31 hk3 hn3 next)
        · exact ev_tableIn (off := 867) (tgt := 900) dL_law_33 (by decide) (by decide) rfl (by decide) (law_20 h h7 hL31 hk3 hn3 next)
        · exact ev_tableIn (off := 910) (tgt := 943) dL_law_33 (by decide) (by decide) rfl (by decide) (law_21 h h7 hL31 hk3 hn3 next)
        · exact ev_tableIn (off := 933) (tgt := 966) dL_law_33 (by decide) (by decide) rfl (by decide) (law_22 h h7 hL31 hk3 hn3 next)
        · exact ev_tableIn (off := 966) (tgt := 999) dL_law_33 (by decide) (by decide) rfl (by decide) (law_23 h h7 hL31 hk3 hn3 next)
        · exact ev_tableIn (off := 989) (tgt := 1022) dL_law_33 (by decide) (by decide) rfl (by decide) (law_24 h h7 hL31 hk3 hn3 next)
        · exact ev_tableIn (off := 1033) (tgt := 1066) dL_law_33 (by decide) (by decide) rfl (by decide) (law_25 h h7 hL31 hk3 hn3 next)
        · exact ev_tableIn (off := 1056) (tgt := 1089) dL_law_33 (by decide) (by decide) rfl (by decide) (law_26 h h7 hL31 hk3 hn3 next)
        · exact ev_tableIn (off := 1089) (tgt := 1122) dL_law_33 (by decide) (by decide) rfl (by decide) (law_27 h h7 hL31 hk3 hn3 next)
        · exact ev_tableIn (off := 1112) (tgt := 1145) dL_law_33 (by decide) (by decide) rfl (by decide) (law_28 h h7 hL31 hk3 hn3 next)
        · exact ev_tableIn (off := 1155) (tgt := 1188) dL_law_33 (by decide) (by decide) rfl (by decide) (law_29 h h7 hL31 hk3 hn3 next)
        · exact ev_tableIn (off := 1188) (tgt := 1221) dL_law_33 (by decide) (by decide) rfl (by decide) (law_30 h h7 hL31 hk3 hn3 next)
        · exact ev_tableIn (off := 1221) (tgt := 1254) dL_law_33 (by decide) (by decide) rfl (by decide) (law_31 h h7 hL31 hk3 hn3 next)
        · exact ev_tableIn (off := 1244) (tgt := 1277) dL_law_33 (by decide) (by decide) rfl (by decide) (law_32 h h7 hL31 hk3 hn3 next)
        · exact ev_tableIn (off := 1298) (tgt := 1331) dL_law_33 (by decide) (by decide) rfl (by decide) (law_33 h h7 hL31 hk3 hn3 next)
        · exact ev_tableIn (off := 1311) (tgt := 1344) dL_law_33 (by decide) (by decide) rfl (by decide) (law_34 h h7 hL31 hk3 hn3 next)
        · exact ev_tableIn (off := 1324) (tgt := 1357) dL_law_33 (by decide) (by decide) rfl (by decide) (law_35 h h7 hL31 hk3 hn3 next)
        · exact ev_tableIn (off := 1367) (tgt := 1400) dL_law_33 (by decide) (by decide) rfl (by decide) (law_36 h h7 hL31 hk3 hn3 next)
        · exact ev_tableIn (off := 1410) (tgt := 1443) dL_law_33 (by decide) (by decide) rfl (by decide) (law_37 h h7 hL31 hk3 hn3 next)
        · exact ev_tableIn (off := 1473) (tgt := 1506) dL_law_33 (by decide) (by decide) rfl (by decide) (law_38 h h7 hL31 hk3 hn3 next)
        · exact ev_tableIn (off := 1526) (tgt := 1559) dL_law_33 (by decide) (by decide) rfl (by decide) (law_39 h h7 hL31 hk3 hn3 next)
      · refine ev_tableOut (tgt := 1592) dL_law_33 (Or.inr ?_) (by decide) ?_
        · rw [nI_toInt (by omega)]; omega
        · exact next A σ k n h (by omega) (by omega)
set_option maxHeartbeats 1000000 in
set_option maxRecDepth 100000 in
theorem law_run {G : am_G} {nm : String} (hL : G.2.2.2.2.2.1 ≤ 3584) : lw_E G nm 0 [(0, .ref 0)] (ly_K.take 32, fun _ _ => 0, fun _ _ => none) 0 0 := by
  show am_Ev G (mL nm) lw_M 659291 7124374 lw_T 0 [(0, .ref 0)] [] (ly_K.take 32, fun _ _ => 0, fun _ _ => none) 0 0
  refine ev_new (c := 6) (N := 16) (L := 32) dL_law_0 (by decide) rfl cl_L_7 am_ib6 am_in6 (cl_len (by decide)) (Nat.le_of_ble_eq_true rfl) (Nat.le_of_ble_eq_true rfl) ?_
  rw [cl_nw (m := 32) (c := 6) (n := 16) rfl (by decide) (fun _ => rfl) (fun _ => rfl)]
  refine ev_dup dL_law_3 rfl ?_
  refine ev_callI (as := []) (st := [.ref 32]) dL_law_4 mfX6_init lk_L_9 (c_X6_init G 0) rfl rfl (Nat.le_of_ble_eq_true rfl) ⟨Nat.le_of_ble_eq_true rfl, Nat.le_of_ble_eq_true rfl⟩ ⟨Nat.le_of_ble_eq_true rfl, Nat.le_of_ble_eq_true rfl⟩ ?_
  rintro _ σ ⟨rfl, hc⟩
  have hl : σ.1.length = 65 := by rw [hc.1]; rfl
  refine ev_astore_n (lv' := [(0, .ref 0), (1, .ref 32)]) dL_law_7 rfl (Nat.le_of_ble_eq_true rfl) rfl ?_
  refine ev_new (c := 7) (N := 39) (L := 65) dL_law_8 (by decide) rfl cl_L_10 am_ib7 am_in7 hl (Nat.le_of_ble_eq_true rfl) (Nat.le_of_ble_eq_true rfl) ?_
  refine ev_dup dL_law_11 rfl ?_
  refine ev_callI (as := []) (st := [.ref 65]) dL_law_12 mfX7_init lk_L_12 (c_X7_init G 0 (am_nw σ 7 39) (c6_in hc) (c6_rf hc)) rfl rfl (Nat.le_of_ble_eq_true rfl) ⟨Nat.le_of_ble_eq_true rfl, Nat.le_of_ble_eq_true rfl⟩ ⟨Nat.le_of_ble_eq_true rfl, Nat.le_of_ble_eq_true rfl⟩ ?_
  rintro _ τ ⟨rfl, A, hA, hI, hf⟩
  refine ev_astore_n (lv' := [(0, .ref 0), (1, .ref 32), (2, .ref 65)]) dL_law_15 rfl (Nat.le_of_ble_eq_true rfl) rfl ?_
  refine ev_iconst (v := nI 0) dL_law_16 (by decide) ?_
  refine ev_istore_n (lv' := [(0, .ref 0), (1, .ref 32), (2, .ref 65), (3, .int (nI 0))]) dL_law_17 rfl (Nat.le_of_ble_eq_true rfl) rfl ?_
  exact law_loop hL 512 A τ 0 _ _ (lw_i0 hA hc hI hf) (Nat.zero_le _) (by omega) (Nat.le_of_ble_eq_true rfl) (Nat.le_of_ble_eq_true rfl)
