/-! the reference: people at questions, scores -/
set_option maxHeartbeats 400000 in
set_option maxRecDepth 100000 in
theorem c_X7_asksOf (G : am_G) (D : Nat) (A : am_S) (σ : am_M) (hA : wf_A A) (hI : iv_M A σ) (P : Nat) (hP : P < 3) (x0 x1 x2 x3 x4 x5 : Int32) : am_Mt G (D + 2) mX7_asksOf [.ref 65, .int (nI P), .int x0, .int x1, .int x2, .int x3, .int x4, .int x5] σ 0 0 (am_qM A (.int (s_as A P (s_nm x0 x1 x2 x3 x4 x5))) σ) := by
  have b7 := wf_np7 hA
  have b8 := wf_nq8 hA
  have b6 := wf_nt6 hA
  have b61 := wf_nt1 hA
  have b160 := wf_tp160 hA
  have brl := wf_rlt hA
  refine am_of moX7_asksOf (Nat.le_of_ble_eq_true rfl) ?_
  show am_Ev G mX7_asksOf (am_R (D + 2) 0 0) 0 0 (am_qM A (.int (s_as A P (s_nm x0 x1 x2 x3 x4 x5))) σ) 0 [(0, .ref 65), (1, .int (nI P)), (2, .int x0), (3, .int x1), (4, .int x2), (5, .int x3), (6, .int x4), (7, .int x5)] [] σ 0 0
  refine ev_aload_n dX7_asksOf_0 rfl rfl ?_
  refine ev_getR (b := 87) dX7_asksOf_1 fl_X7_73 (ly_k hI.ly 65 rfl) (ly_r hI.ly 50 rfl) ?_
  refine ev_iconst (v := 0) dX7_asksOf_4 (by decide) ?_
  refine ev_iload_n dX7_asksOf_5 rfl rfl ?_
  refine ev_iast dX7_asksOf_6 (ly_k hI.ly 87 rfl) (am_ixn (j := 0) (by decide) (by decide)) ?_
  refine ev_aload_n dX7_asksOf_7 rfl rfl ?_
  refine ev_getR (b := 87) dX7_asksOf_8 fl_X7_73 (ly_k (iv_M.sc rfl hI).ly 65 rfl) (ly_r (iv_M.sc rfl hI).ly 50 rfl) ?_
  refine ev_iconst (v := 1) dX7_asksOf_11 (by decide) ?_
  refine ev_iload_n dX7_asksOf_12 rfl rfl ?_
  refine ev_iast dX7_asksOf_13 (ly_k (iv_M.sc rfl hI).ly 87 rfl) (am_ixn (j := 1) (by decide) (by decide)) ?_
  refine ev_aload_n dX7_asksOf_14 rfl rfl ?_
  refine ev_getR (b := 87) dX7_asksOf_15 fl_X7_73 (ly_k (iv_M.sc rfl (iv_M.sc rfl hI)).ly 65 rfl) (ly_r (iv_M.sc rfl (iv_M.sc rfl hI)).ly 50 rfl) ?_
  refine ev_iconst (v := 2) dX7_asksOf_18 (by decide) ?_
  refine ev_iload dX7_asksOf_19 rfl ?_
  refine ev_iast dX7_asksOf_21 (ly_k (iv_M.sc rfl (iv_M.sc rfl hI)).ly 87 rfl) (am_ixn (j := 2) (by decide) (by decide)) ?_
  refine ev_aload_n dX7_asksOf_22 rfl rfl ?_
  refine ev_getR (b := 87) dX7_asksOf_23 fl_X7_73 (ly_k (iv_M.sc rfl (iv_M.sc rfl (iv_M.sc rfl hI))).ly 65 rfl) (ly_r (iv_M.sc rfl (iv_M.sc rfl (iv_M.sc rfl hI))).ly 50 rfl) ?_
  refine ev_iconst (v := 3) dX7_asksOf_26 (by decide) ?_
  refine ev_iload dX7_asksOf_27 rfl ?_
  refine ev_iast dX7_asksOf_29 (ly_k (iv_M.sc rfl (iv_M.sc rfl (iv_M.sc rfl hI))).ly 87 rfl) (am_ixn (j := 3) (by decide) (by decide)) ?_
  refine ev_aload_n dX7_asksOf_30 rfl rfl ?_
  refine ev_getR (b := 87) dX7_asksOf_31 fl_X7_73 (ly_k (iv_M.sc rfl (iv_M.sc rfl (iv_M.sc rfl (iv_M.sc rfl hI)))).ly 65 rfl) (ly_r (iv_M.sc rfl (iv_M.sc rfl (iv_M.sc rfl (iv_M.sc rfl hI)))).ly 50 rfl) ?_
  refine ev_iconst (v := 4) dX7_asksOf_34 (by decide) ?_
  refine ev_iload dX7_asksOf_35 rfl ?_
  refine ev_iast dX7_asksOf_37 (ly_k (iv_M.sc rfl (iv_M.sc rfl (iv_M.sc rfl (iv_M.sc rfl hI)))).ly 87 rfl) (am_ixn (j := 4) (by decide) (by decide)) ?_
  refine ev_aload_n dX7_asksOf_38 rfl rfl ?_
  refine ev_getR (b := 87) dX7_asksOf_39 fl_X7_73 (ly_k (iv_M.sc rfl (iv_M.sc rfl (iv_M.sc rfl (iv_M.sc rfl (iv_M.sc rfl hI))))).ly 65 rfl) (ly_r (iv_M.sc rfl (iv_M.sc rfl (iv_M.sc rfl (iv_M.sc rfl (iv_M.sc rfl hI))))).ly 50 rfl) ?_
  refine ev_iconst (v := 5) dX7_asksOf_42 (by decide) ?_
  refine ev_iload dX7_asksOf_43 rfl ?_
  refine ev_iast dX7_asksOf_45 (ly_k (iv_M.sc rfl (iv_M.sc rfl (iv_M.sc rfl (iv_M.sc rfl (iv_M.sc rfl hI))))).ly 87 rfl) (am_ixn (j := 5) (by decide) (by decide)) ?_
  have hn : s_na (am_sI (am_sI (am_sI (am_sI (am_sI (am_sI σ 87 0 x0) 87 1 x1) 87 2 x2) 87 3 x3) 87 4 x4) 87 5 x5) 87 (s_nm x0 x1 x2 x3 x4 x5) := by
    intro j hj
    rcases (show j = 0 ∨ j = 1 ∨ j = 2 ∨ j = 3 ∨ j = 4 ∨ j = 5 by omega) with rfl | rfl | rfl | rfl | rfl | rfl <;> rfl
  refine ev_iload_n dX7_asksOf_46 rfl rfl ?_
  refine ev_if_ne (tgt := 67) dX7_asksOf_47 (by decide) (fun c1 => ?_) (fun c1 => ?_)
  · skip
    have c1n : ¬ P = 0 := fun zz => c1 ((nI_eq (a := P) (b := 0) (by omega) (by omega)).mpr zz)
    refine ev_aload_n dX7_asksOf_67 rfl rfl ?_
    refine ev_iload_n dX7_asksOf_68 rfl rfl ?_
    refine ev_callV (as := [.int (nI P)]) (st := []) dX7_asksOf_69 mfX7_says lk_X7_167 (ly_k (iv_M.sc rfl (iv_M.sc rfl (iv_M.sc rfl (iv_M.sc rfl (iv_M.sc rfl (iv_M.sc rfl hI)))))).ly 65 rfl) (by decide) rfl (c_X7_says G D A (am_sI (am_sI (am_sI (am_sI (am_sI (am_sI σ 87 0 x0) 87 1 x1) 87 2 x2) 87 3 x3) 87 4 x4) 87 5 x5) hA (iv_M.sc rfl (iv_M.sc rfl (iv_M.sc rfl (iv_M.sc rfl (iv_M.sc rfl (iv_M.sc rfl hI)))))) P (by omega) (s_nm x0 x1 x2 x3 x4 x5) hn) rfl rfl (Nat.le_of_ble_eq_true rfl) (am_hR (by omega) (by decide)) ⟨Nat.le_refl _, Nat.le_refl _⟩ ?_
    rintro _ σ2 ⟨rfl, hI2, hF2⟩
    refine ev_iconst (v := 0) dX7_asksOf_72 (by decide) ?_
    refine ev_bipush (v := 99) dX7_asksOf_73 (by decide) ?_
    refine ev_callS (as := [.int (s_sy A P (s_nm x0 x1 x2 x3 x4 x5)), .int 0, .int 99]) (st := []) dX7_asksOf_75 mfX7_within lk_X7_170 (c_X7_within G (D + 1) σ2 (s_sy A P (s_nm x0 x1 x2 x3 x4 x5)) 0 99) rfl rfl (Nat.le_of_ble_eq_true rfl) (am_hR (by omega) (by decide)) ⟨Nat.le_refl _, Nat.le_refl _⟩ ?_
    rintro _ _ ⟨rfl, rfl⟩
    refine ev_reti dX7_asksOf_78 rfl (Nat.zero_le _) (Nat.zero_le _) ?_
    exact ⟨by unfold s_as; first | rw [if_pos rfl] | rw [if_neg c1n], hI2, (fr_M.tr (fr_M.wr (by decide) (fr_M.wr (by decide) (fr_M.wr (by decide) (fr_M.wr (by decide) (fr_M.wr (by decide) (fr_M.wr (by decide) fr_M.rf)))))) hF2)⟩
  · skip
    have c1n : P = 0 := (nI_eq (a := P) (b := 0) (by omega) (by omega)).mp c1
    have P0 : P = 0 := c1n
    subst P0
    refine ev_aload_n dX7_asksOf_50 rfl rfl ?_
    refine ev_iconst (v := 0) dX7_asksOf_51 (by decide) ?_
    refine ev_callV (as := [.int 0]) (st := []) dX7_asksOf_52 mfX7_says lk_X7_167 (ly_k (iv_M.sc rfl (iv_M.sc rfl (iv_M.sc rfl (iv_M.sc rfl (iv_M.sc rfl (iv_M.sc rfl hI)))))).ly 65 rfl) (by decide) rfl (c_X7_says G D A (am_sI (am_sI (am_sI (am_sI (am_sI (am_sI σ 87 0 x0) 87 1 x1) 87 2 x2) 87 3 x3) 87 4 x4) 87 5 x5) hA (iv_M.sc rfl (iv_M.sc rfl (iv_M.sc rfl (iv_M.sc rfl (iv_M.sc rfl (iv_M.sc rfl hI)))))) 0 (by omega) (s_nm x0 x1 x2 x3 x4 x5) hn) rfl rfl (Nat.le_of_ble_eq_true rfl) (am_hR (by omega) (by decide)) ⟨Nat.le_refl _, Nat.le_refl _⟩ ?_
    rintro _ σ3 ⟨rfl, hI3, hF3⟩
    refine ev_sipush (v := (-999)) dX7_asksOf_55 (by decide) ?_
    refine ev_sipush (v := 999) dX7_asksOf_58 (by decide) ?_
    refine ev_callS (as := [.int (s_sy A 0 (s_nm x0 x1 x2 x3 x4 x5)), .int (-999), .int 999]) (st := []) dX7_asksOf_61 mfX7_within lk_X7_170 (c_X7_within G (D + 1) σ3 (s_sy A 0 (s_nm x0 x1 x2 x3 x4 x5)) (-999) 999) rfl rfl (Nat.le_of_ble_eq_true rfl) (am_hR (by omega) (by decide)) ⟨Nat.le_refl _, Nat.le_refl _⟩ ?_
    rintro _ _ ⟨rfl, rfl⟩
    refine ev_goto (tgt := 78) dX7_asksOf_64 (by decide) ?_
    refine ev_reti dX7_asksOf_78 rfl (Nat.zero_le _) (Nat.zero_le _) ?_
    exact ⟨by unfold s_as; first | rw [if_pos rfl] | rw [if_neg c1n], hI3, (fr_M.tr (fr_M.wr (by decide) (fr_M.wr (by decide) (fr_M.wr (by decide) (fr_M.wr (by decide) (fr_M.wr (by decide) (fr_M.wr (by decide) fr_M.rf)))))) hF3)⟩

set_option maxHeartbeats 400000 in
set_option maxRecDepth 100000 in
theorem c_X7_asks (G : am_G) (D : Nat) (A : am_S) (σ : am_M) (hA : wf_A A) (hI : iv_M A σ) (part da l tr w : Int32) : am_Mt G (D + 3) mX7_asks [.ref 65, .int part, .int da, .int l, .int tr, .int w] σ 0 0 (am_qM A (.int (sp_asks A part da l tr w)) σ) := by
  have b7 := wf_np7 hA
  have b8 := wf_nq8 hA
  have b6 := wf_nt6 hA
  have b61 := wf_nt1 hA
  have b160 := wf_tp160 hA
  have brl := wf_rlt hA
  refine am_of moX7_asks (Nat.le_of_ble_eq_true rfl) ?_
  show am_Ev G mX7_asks (am_R (D + 3) 0 0) 0 0 (am_qM A (.int (sp_asks A part da l tr w)) σ) 0 [(0, .ref 65), (1, .int part), (2, .int da), (3, .int l), (4, .int tr), (5, .int w)] [] σ 0 0
  refine ev_iload_n dX7_asks_0 rfl rfl ?_
  refine ev_iconst (v := 0) dX7_asks_1 (by decide) ?_
  refine ev_iconst (v := 2) dX7_asks_2 (by decide) ?_
  refine ev_callS (as := [.int part, .int 0, .int 2]) (st := []) dX7_asks_3 mfX7_in lk_X7_90 (c_X7_in G (D + 2) σ part 0 2) rfl rfl (Nat.le_of_ble_eq_true rfl) (am_hR (by omega) (by decide)) ⟨Nat.le_refl _, Nat.le_refl _⟩ ?_
  rintro _ _ (⟨h1, rfl, rfl⟩ | ⟨h1, rfl, rfl⟩)
  · skip
    obtain ⟨j1, h1r, rfl⟩ := (am_rgl (n := 3) (by decide)).mp h1
    refine ev_if_eq (tgt := 55) dX7_asks_6 (by decide) (fun c => absurd c (by decide)) (fun _ => ?_)
    refine ev_iload_n dX7_asks_9 rfl rfl ?_
    refine ev_iconst (v := 0) dX7_asks_10 (by decide) ?_
    refine ev_bipush (v := 99) dX7_asks_11 (by decide) ?_
    refine ev_callS (as := [.int da, .int 0, .int 99]) (st := []) dX7_asks_13 mfX7_in lk_X7_90 (c_X7_in G (D + 2) σ da 0 99) rfl rfl (Nat.le_of_ble_eq_true rfl) (am_hR (by omega) (by decide)) ⟨Nat.le_refl _, Nat.le_refl _⟩ ?_
    rintro _ _ (⟨h2, rfl, rfl⟩ | ⟨h2, rfl, rfl⟩)
    · skip
      obtain ⟨j2, h2r, rfl⟩ := (am_rgl (n := 100) (by decide)).mp h2
      refine ev_if_eq (tgt := 55) dX7_asks_16 (by decide) (fun c => absurd c (by decide)) (fun _ => ?_)
      refine ev_iload_n dX7_asks_19 rfl rfl ?_
      refine ev_iconst (v := 0) dX7_asks_20 (by decide) ?_
      refine ev_bipush (v := 99) dX7_asks_21 (by decide) ?_
      refine ev_callS (as := [.int l, .int 0, .int 99]) (st := []) dX7_asks_23 mfX7_in lk_X7_90 (c_X7_in G (D + 2) σ l 0 99) rfl rfl (Nat.le_of_ble_eq_true rfl) (am_hR (by omega) (by decide)) ⟨Nat.le_refl _, Nat.le_refl _⟩ ?_
      rintro _ _ (⟨h3, rfl, rfl⟩ | ⟨h3, rfl, rfl⟩)
      · skip
        obtain ⟨j3, h3r, rfl⟩ := (am_rgl (n := 100) (by decide)).mp h3
        refine ev_if_eq (tgt := 55) dX7_asks_26 (by decide) (fun c => absurd c (by decide)) (fun _ => ?_)
        refine ev_iload dX7_asks_29 rfl ?_
        refine ev_iconst (v := 0) dX7_asks_31 (by decide) ?_
        refine ev_bipush (v := 39) dX7_asks_32 (by decide) ?_
        refine ev_callS (as := [.int tr, .int 0, .int 39]) (st := []) dX7_asks_34 mfX7_in lk_X7_90 (c_X7_in G (D + 2) σ tr 0 39) rfl rfl (Nat.le_of_ble_eq_true rfl) (am_hR (by omega) (by decide)) ⟨Nat.le_refl _, Nat.le_refl _⟩ ?_
        rintro _ _ (⟨h4, rfl, rfl⟩ | ⟨h4, rfl, rfl⟩)
        · skip
          obtain ⟨j4, h4r, rfl⟩ := (am_rgl (n := 40) (by decide)).mp h4
          refine ev_if_eq (tgt := 55) dX7_asks_37 (by decide) (fun c => absurd c (by decide)) (fun _ => ?_)
          refine ev_iload dX7_asks_40 rfl ?_
          refine ev_iconst (v := 0) dX7_asks_42 (by decide) ?_
          refine ev_bipush (v := 6) dX7_asks_43 (by decide) ?_
          refine ev_callS (as := [.int w, .int 0, .int 6]) (st := []) dX7_asks_45 mfX7_in lk_X7_90 (c_X7_in G (D + 2) σ w 0 6) rfl rfl (Nat.le_of_ble_eq_true rfl) (am_hR (by omega) (by decide)) ⟨Nat.le_refl _, Nat.le_refl _⟩ ?_
          rintro _ _ (⟨h5, rfl, rfl⟩ | ⟨h5, rfl, rfl⟩)
          · skip
            obtain ⟨j5, h5r, rfl⟩ := (am_rgl (n := 7) (by decide)).mp h5
            refine ev_if_eq (tgt := 55) dX7_asks_48 (by decide) (fun c => absurd c (by decide)) (fun _ => ?_)
            refine ev_iconst (v := 1) dX7_asks_51 (by decide) ?_
            refine ev_goto (tgt := 56) dX7_asks_52 (by decide) ?_
            refine ev_istore (lv' := [(0, .ref 65), (1, .int (nI j1)), (2, .int (nI j2)), (3, .int (nI j3)), (4, .int (nI j4)), (5, .int (nI j5)), (6, .int 1)]) dX7_asks_56 (by decide) rfl ?_
            refine ev_iload dX7_asks_58 rfl ?_
            refine ev_if_eq (tgt := 92) dX7_asks_60 (by decide) (fun c => absurd c (by decide)) (fun _ => ?_)
            refine ev_aload_n dX7_asks_63 rfl rfl ?_
            refine ev_iload_n dX7_asks_64 rfl rfl ?_
            refine ev_iload_n dX7_asks_65 rfl rfl ?_
            refine ev_bipush (v := 10) dX7_asks_66 (by decide) ?_
            refine ev_idiv (v := (nI j2) / 10) dX7_asks_68 (by decide) rfl ?_
            refine ev_iload_n dX7_asks_69 rfl rfl ?_
            refine ev_bipush (v := 10) dX7_asks_70 (by decide) ?_
            refine ev_irem (v := (nI j2) - (nI j2) / 10 * 10) dX7_asks_72 (by decide) rfl ?_
            refine ev_iload_n dX7_asks_73 rfl rfl ?_
            refine ev_iload dX7_asks_74 rfl ?_
            refine ev_bipush (v := 10) dX7_asks_76 (by decide) ?_
            refine ev_idiv (v := (nI j4) / 10) dX7_asks_78 (by decide) rfl ?_
            refine ev_iload dX7_asks_79 rfl ?_
            refine ev_bipush (v := 10) dX7_asks_81 (by decide) ?_
            refine ev_irem (v := (nI j4) - (nI j4) / 10 * 10) dX7_asks_83 (by decide) rfl ?_
            refine ev_iload dX7_asks_84 rfl ?_
            refine ev_callV (as := [.int (nI j1), .int ((nI j2) / 10), .int ((nI j2) - (nI j2) / 10 * 10), .int (nI j3), .int ((nI j4) / 10), .int ((nI j4) - (nI j4) / 10 * 10), .int (nI j5)]) (st := []) dX7_asks_86 mfX7_asksOf lk_X7_173 (ly_k hI.ly 65 rfl) (by decide) rfl (c_X7_asksOf G D A σ hA hI j1 (by omega) ((nI j2) / 10) ((nI j2) - (nI j2) / 10 * 10) (nI j3) ((nI j4) / 10) ((nI j4) - (nI j4) / 10 * 10) (nI j5)) rfl rfl (Nat.le_of_ble_eq_true rfl) (am_hR (by omega) (by decide)) ⟨Nat.le_refl _, Nat.le_refl _⟩ ?_
            rintro _ σ6 ⟨rfl, hI6, hF6⟩
            refine ev_goto (tgt := 94) dX7_asks_89 (by decide) ?_
            refine ev_reti dX7_asks_94 rfl (Nat.zero_le _) (Nat.zero_le _) ?_
            refine ⟨?_, hI6, (fr_M.tr fr_M.rf hF6)⟩
            simp [sp_asks, am_inN h1r (by omega), sN_n (show j1 < 2 ^ 31 by omega), am_inN h2r (by omega), sN_n (show j2 < 2 ^ 31 by omega), am_inN h3r (by omega), sN_n (show j3 < 2 ^ 31 by omega), am_inN h4r (by omega), sN_n (show j4 < 2 ^ 31 by omega), am_inN h5r (by omega), sN_n (show j5 < 2 ^ 31 by omega)]
          · skip
            have h5r := fun q => h5 ((am_rgl (n := 7) (by decide)).mpr q)
            refine ev_if_eq (tgt := 55) dX7_asks_48 (by decide) (fun _ => ?_) (fun c => absurd (by decide) c)
            refine ev_iconst (v := 0) dX7_asks_55 (by decide) ?_
            refine ev_istore (lv' := [(0, .ref 65), (1, .int (nI j1)), (2, .int (nI j2)), (3, .int (nI j3)), (4, .int (nI j4)), (5, .int w), (6, .int 0)]) dX7_asks_56 (by decide) rfl ?_
            refine ev_iload dX7_asks_58 rfl ?_
            refine ev_if_eq (tgt := 92) dX7_asks_60 (by decide) (fun _ => ?_) (fun c => absurd (by decide) c)
            refine ev_bipush (v := (-2)) dX7_asks_92 (by decide) ?_
            refine ev_reti dX7_asks_94 rfl (Nat.zero_le _) (Nat.zero_le _) ?_
            refine ⟨?_, hI, fr_M.rf⟩
            simp [sp_asks, am_inN h1r (by omega), sN_n (show j1 < 2 ^ 31 by omega), am_inN h2r (by omega), sN_n (show j2 < 2 ^ 31 by omega), am_inN h3r (by omega), sN_n (show j3 < 2 ^ 31 by omega), am_inN h4r (by omega), sN_n (show j4 < 2 ^ 31 by omega), am_inF (by omega) h5r]
        · skip
          have h4r := fun q => h4 ((am_rgl (n := 40) (by decide)).mpr q)
          refine ev_if_eq (tgt := 55) dX7_asks_37 (by decide) (fun _ => ?_) (fun c => absurd (by decide) c)
          refine ev_iconst (v := 0) dX7_asks_55 (by decide) ?_
          refine ev_istore (lv' := [(0, .ref 65), (1, .int (nI j1)), (2, .int (nI j2)), (3, .int (nI j3)), (4, .int tr), (5, .int w), (6, .int 0)]) dX7_asks_56 (by decide) rfl ?_
          refine ev_iload dX7_asks_58 rfl ?_
          refine ev_if_eq (tgt := 92) dX7_asks_60 (by decide) (fun _ => ?_) (fun c => absurd (by decide) c)
          refine ev_bipush (v := (-2)) dX7_asks_92 (by decide) ?_
          refine ev_reti dX7_asks_94 rfl (Nat.zero_le _) (Nat.zero_le _) ?_
          refine ⟨?_, hI, fr_M.rf⟩
          simp [sp_asks, am_inN h1r (by omega), sN_n (show j1 < 2 ^ 31 by omega), am_inN h2r (by omega), sN_n (show j2 < 2 ^ 31 by omega), am_inN h3r (by omega), sN_n (show j3 < 2 ^ 31 by omega), am_inF (by omega) h4r]
      · skip
        have h3r := fun q => h3 ((am_rgl (n := 100) (by decide)).mpr q)
        refine ev_if_eq (tgt := 55) dX7_asks_26 (by decide) (fun _ => ?_) (fun c => absurd (by decide) c)
        refine ev_iconst (v := 0) dX7_asks_55 (by decide) ?_
        refine ev_istore (lv' := [(0, .ref 65), (1, .int (nI j1)), (2, .int (nI j2)), (3, .int l), (4, .int tr), (5, .int w), (6, .int 0)]) dX7_asks_56 (by decide) rfl ?_
        refine ev_iload dX7_asks_58 rfl ?_
        refine ev_if_eq (tgt := 92) dX7_asks_60 (by decide) (fun _ => ?_) (fun c => absurd (by decide) c)
        refine ev_bipush (v := (-2)) dX7_asks_92 (by decide) ?_
        refine ev_reti dX7_asks_94 rfl (Nat.zero_le _) (Nat.zero_le _) ?_
        refine ⟨?_, hI, fr_M.rf⟩
        simp [sp_asks, am_inN h1r (by omega), sN_n (show j1 < 2 ^ 31 by omega), am_inN h2r (by omega), sN_n (show j2 < 2 ^ 31 by omega), am_inF (by omega) h3r]
    · skip
      have h2r := fun q => h2 ((am_rgl (n := 100) (by decide)).mpr q)
      refine ev_if_eq (tgt := 55) dX7_asks_16 (by decide) (fun _ => ?_) (fun c => absurd (by decide) c)
      refine ev_iconst (v := 0) dX7_asks_55 (by decide) ?_
      refine ev_istore (lv' := [(0, .ref 65), (1, .int (nI j1)), (2, .int da), (3, .int l), (4, .int tr), (5, .int w), (6, .int 0)]) dX7_asks_56 (by decide) rfl ?_
      refine ev_iload dX7_asks_58 rfl ?_
      refine ev_if_eq (tgt := 92) dX7_asks_60 (by decide) (fun _ => ?_) (fun c => absurd (by decide) c)
      refine ev_bipush (v := (-2)) dX7_asks_92 (by decide) ?_
      refine ev_reti dX7_asks_94 rfl (Nat.zero_le _) (Nat.zero_le _) ?_
      refine ⟨?_, hI, fr_M.rf⟩
      simp [sp_asks, am_inN h1r (by omega), sN_n (show j1 < 2 ^ 31 by omega), am_inF (by omega) h2r]
  · skip
    have h1r := fun q => h1 ((am_rgl (n := 3) (by decide)).mpr q)
    refine ev_if_eq (tgt := 55) dX7_asks_6 (by decide) (fun _ => ?_) (fun c => absurd (by decide) c)
    refine ev_iconst (v := 0) dX7_asks_55 (by decide) ?_
    refine ev_istore (lv' := [(0, .ref 65), (1, .int part), (2, .int da), (3, .int l), (4, .int tr), (5, .int w), (6, .int 0)]) dX7_asks_56 (by decide) rfl ?_
    refine ev_iload dX7_asks_58 rfl ?_
    refine ev_if_eq (tgt := 92) dX7_asks_60 (by decide) (fun _ => ?_) (fun c => absurd (by decide) c)
    refine ev_bipush (v := (-2)) dX7_asks_92 (by decide) ?_
    refine ev_reti dX7_asks_94 rfl (Nat.zero_le _) (Nat.zero_le _) ?_
    refine ⟨?_, hI, fr_M.rf⟩
    simp [sp_asks, am_inF (by omega) h1r]

set_option maxHeartbeats 400000 in
set_option maxRecDepth 100000 in
theorem c_X7_knows (G : am_G) (D : Nat) (A : am_S) (σ : am_M) (hA : wf_A A) (hI : iv_M A σ) (p q : Nat) (hp : p < s_np A) (hq : q < s_nq A) : am_Mt G (D + 1) mX7_knows [.ref 65, .int (nI p), .int (nI q)] σ 0 0 (am_q (.int (s_kn A p q)) σ) := by
  have b7 := wf_np7 hA
  have b8 := wf_nq8 hA
  have b6 := wf_nt6 hA
  have b61 := wf_nt1 hA
  have b160 := wf_tp160 hA
  have brl := wf_rlt hA
  refine am_of moX7_knows (Nat.le_of_ble_eq_true rfl) ?_
  show am_Ev G mX7_knows (am_R (D + 1) 0 0) 0 0 (am_q (.int (s_kn A p q)) σ) 0 [(0, .ref 65), (1, .int (nI p)), (2, .int (nI q))] [] σ 0 0
  obtain ⟨⟨tq, htq, etq⟩, -⟩ := wf_qq hA q hq
  refine ev_aload_n dX7_knows_0 rfl rfl ?_
  refine ev_getR (b := 66) dX7_knows_1 fl_X7_7 (ly_k hI.ly 65 rfl) (ly_r hI.ly 29 rfl) ?_
  refine ev_iload_n dX7_knows_4 rfl rfl ?_
  refine ev_iald (v := A 66 p) dX7_knows_5 (ly_k hI.ly 66 rfl) (am_ixn (by omega) (by decide)) (hI.rd 66 p rfl) ?_
  refine ev_istore_n (lv' := [(0, .ref 65), (1, .int (nI p)), (2, .int (nI q)), (3, .int (A 66 p))]) dX7_knows_6 rfl (by decide) rfl ?_
  refine ev_aload_n dX7_knows_7 rfl rfl ?_
  refine ev_getR (b := 71) dX7_knows_8 fl_X7_25 (ly_k hI.ly 65 rfl) (ly_r hI.ly 34 rfl) ?_
  refine ev_iload_n dX7_knows_11 rfl rfl ?_
  refine ev_iald (v := nI tq) dX7_knows_12 (ly_k hI.ly 71 rfl) (am_ixn (by omega) (by decide)) ((hI.rd 71 q rfl).trans etq) ?_
  refine ev_istore (lv' := [(0, .ref 65), (1, .int (nI p)), (2, .int (nI q)), (3, .int (A 66 p)), (4, .int (nI tq))]) dX7_knows_13 (by decide) rfl ?_
  refine ev_aload_n dX7_knows_15 rfl rfl ?_
  refine ev_getR (b := 70) dX7_knows_16 fl_X7_22 (ly_k hI.ly 65 rfl) (ly_r hI.ly 33 rfl) ?_
  refine ev_iconst (v := 4) dX7_knows_19 (by decide) ?_
  refine ev_iload_n dX7_knows_20 rfl rfl ?_
  refine ev_imul (v := nI (4 * p)) dX7_knows_21 (pk_mul 4 p) ?_
  refine ev_iload dX7_knows_22 rfl ?_
  refine ev_iadd (v := nI (4 * p + tq)) dX7_knows_24 (nI_add (4 * p) tq) ?_
  refine ev_iald (v := A 70 (4 * p + tq)) dX7_knows_25 (ly_k hI.ly 70 rfl) (am_ixn (by omega) (by decide)) (hI.rd 70 (4 * p + tq) rfl) ?_
  refine ev_istore (lv' := [(0, .ref 65), (1, .int (nI p)), (2, .int (nI q)), (3, .int (A 66 p)), (4, .int (nI tq)), (5, .int (A 70 (4 * p + tq)))]) dX7_knows_26 (by decide) rfl ?_
  refine ev_iload dX7_knows_28 rfl ?_
  refine ev_aload_n dX7_knows_30 rfl rfl ?_
  refine ev_getR (b := 68) dX7_knows_31 fl_X7_16 (ly_k hI.ly 65 rfl) (ly_r hI.ly 31 rfl) ?_
  refine ev_iload_n dX7_knows_34 rfl rfl ?_
  refine ev_iald (v := A 68 p) dX7_knows_35 (ly_k hI.ly 68 rfl) (am_ixn (by omega) (by decide)) (hI.rd 68 p rfl) ?_
  refine ev_iconst (v := 4) dX7_knows_36 (by decide) ?_
  refine ev_irem (v := (A 68 p) - (A 68 p) / 4 * 4) dX7_knows_37 (by decide) rfl ?_
  refine ev_icmp_ne (tgt := 48) dX7_knows_38 (by decide) (fun c1 => ?_) (fun c1 => ?_)
  · skip
    refine ev_iload dX7_knows_48 rfl ?_
    refine ev_istore (lv' := [(0, .ref 65), (1, .int (nI p)), (2, .int (nI q)), (3, .int (A 66 p)), (4, .int (nI tq)), (5, .int (A 70 (4 * p + tq))), (6, .int (A 70 (4 * p + tq)))]) dX7_knows_50 (by decide) rfl ?_
    refine ev_iload_n dX7_knows_52 rfl rfl ?_
    refine ev_iconst (v := 1) dX7_knows_53 (by decide) ?_
    refine ev_icmp_ne (tgt := 62) dX7_knows_54 (by decide) (fun c2 => ?_) (fun c2 => ?_)
    · skip
      refine ev_iload_n dX7_knows_62 rfl rfl ?_
      refine ev_iconst (v := 3) dX7_knows_63 (by decide) ?_
      refine ev_icmp_ne (tgt := 76) dX7_knows_64 (by decide) (fun c3 => ?_) (fun c3 => ?_)
      · skip
        refine ev_iload_n dX7_knows_76 rfl rfl ?_
        refine ev_iconst (v := 4) dX7_knows_77 (by decide) ?_
        refine ev_icmp_ne (tgt := 88) dX7_knows_78 (by decide) (fun c4 => ?_) (fun c4 => ?_)
        · skip
          refine ev_iload_n dX7_knows_88 rfl rfl ?_
          refine ev_iconst (v := 5) dX7_knows_89 (by decide) ?_
          refine ev_icmp_ne (tgt := 108) dX7_knows_90 (by decide) (fun c5 => ?_) (fun c5 => ?_)
          · skip
            refine ev_iload dX7_knows_108 rfl ?_
            refine ev_istore (lv' := [(0, .ref 65), (1, .int (nI p)), (2, .int (nI q)), (3, .int (A 66 p)), (4, .int (nI tq)), (5, .int (A 70 (4 * p + tq))), (6, .int (A 70 (4 * p + tq))), (7, .int (A 70 (4 * p + tq)))]) dX7_knows_110 (by decide) rfl ?_
            refine ev_iload dX7_knows_112 rfl ?_
            refine ev_iconst (v := 0) dX7_knows_114 (by decide) ?_
            refine ev_bipush (v := 9) dX7_knows_115 (by decide) ?_
            refine ev_callS (as := [.int (A 70 (4 * p + tq)), .int 0, .int 9]) (st := []) dX7_knows_117 mfX7_within lk_X7_170 (c_X7_within G D σ (A 70 (4 * p + tq)) 0 9) rfl rfl (Nat.le_of_ble_eq_true rfl) (am_hR (by omega) (by decide)) ⟨Nat.le_refl _, Nat.le_refl _⟩ ?_
            rintro _ _ ⟨rfl, rfl⟩
            refine ev_reti dX7_knows_120 rfl (Nat.zero_le _) (Nat.zero_le _) ?_
            have e : s_kv A p (A 71 q) (nI q) (A 70 (4 * p + sN (A 71 q))) = (A 70 (4 * p + tq)) := by
              rw [etq, sN_n (by omega)]
              simp [s_kv, c1, c2, c3, c4, c5]
            exact ⟨by unfold s_kn; rw [e], rfl⟩
          · skip
            refine ev_iload_n dX7_knows_93 rfl rfl ?_
            refine ev_aload_n dX7_knows_94 rfl rfl ?_
            refine ev_getR (b := 68) dX7_knows_95 fl_X7_16 (ly_k hI.ly 65 rfl) (ly_r hI.ly 31 rfl) ?_
            refine ev_iload_n dX7_knows_98 rfl rfl ?_
            refine ev_iald (v := A 68 p) dX7_knows_99 (ly_k hI.ly 68 rfl) (am_ixn (by omega) (by decide)) (hI.rd 68 p rfl) ?_
            refine ev_icmp_lt (tgt := 108) dX7_knows_100 (by decide) (fun c6 => ?_) (fun c6 => ?_)
            · skip
              refine ev_iload dX7_knows_108 rfl ?_
              refine ev_istore (lv' := [(0, .ref 65), (1, .int (nI p)), (2, .int (nI q)), (3, .int (A 66 p)), (4, .int (nI tq)), (5, .int (A 70 (4 * p + tq))), (6, .int (A 70 (4 * p + tq))), (7, .int (A 70 (4 * p + tq)))]) dX7_knows_110 (by decide) rfl ?_
              refine ev_iload dX7_knows_112 rfl ?_
              refine ev_iconst (v := 0) dX7_knows_114 (by decide) ?_
              refine ev_bipush (v := 9) dX7_knows_115 (by decide) ?_
              refine ev_callS (as := [.int (A 70 (4 * p + tq)), .int 0, .int 9]) (st := []) dX7_knows_117 mfX7_within lk_X7_170 (c_X7_within G D σ (A 70 (4 * p + tq)) 0 9) rfl rfl (Nat.le_of_ble_eq_true rfl) (am_hR (by omega) (by decide)) ⟨Nat.le_refl _, Nat.le_refl _⟩ ?_
              rintro _ _ ⟨rfl, rfl⟩
              refine ev_reti dX7_knows_120 rfl (Nat.zero_le _) (Nat.zero_le _) ?_
              have e : s_kv A p (A 71 q) (nI q) (A 70 (4 * p + sN (A 71 q))) = (A 70 (4 * p + tq)) := by
                rw [etq, sN_n (by omega)]
                simp [s_kv, c1, c2, c3, c4, c5, c6, Int32.not_le.mpr c6]
              exact ⟨by unfold s_kn; rw [e], rfl⟩
            · skip
              refine ev_bipush (v := 9) dX7_knows_103 (by decide) ?_
              refine ev_goto (tgt := 110) dX7_knows_105 (by decide) ?_
              refine ev_istore (lv' := [(0, .ref 65), (1, .int (nI p)), (2, .int (nI q)), (3, .int (A 66 p)), (4, .int (nI tq)), (5, .int (A 70 (4 * p + tq))), (6, .int (A 70 (4 * p + tq))), (7, .int 9)]) dX7_knows_110 (by decide) rfl ?_
              refine ev_iload dX7_knows_112 rfl ?_
              refine ev_iconst (v := 0) dX7_knows_114 (by decide) ?_
              refine ev_bipush (v := 9) dX7_knows_115 (by decide) ?_
              refine ev_callS (as := [.int 9, .int 0, .int 9]) (st := []) dX7_knows_117 mfX7_within lk_X7_170 (c_X7_within G D σ 9 0 9) rfl rfl (Nat.le_of_ble_eq_true rfl) (am_hR (by omega) (by decide)) ⟨Nat.le_refl _, Nat.le_refl _⟩ ?_
              rintro _ _ ⟨rfl, rfl⟩
              refine ev_reti dX7_knows_120 rfl (Nat.zero_le _) (Nat.zero_le _) ?_
              have e : s_kv A p (A 71 q) (nI q) (A 70 (4 * p + sN (A 71 q))) = 9 := by
                rw [etq, sN_n (by omega)]
                simp [s_kv, c1, c2, c3, c4, c5, c6, Int32.not_lt.mp c6]
              exact ⟨by unfold s_kn; rw [e], rfl⟩
        · skip
          refine ev_iload dX7_knows_81 rfl ?_
          refine ev_iconst (v := 2) dX7_knows_83 (by decide) ?_
          refine ev_iadd (v := (A 70 (4 * p + tq)) + 2) dX7_knows_84 rfl ?_
          refine ev_goto (tgt := 110) dX7_knows_85 (by decide) ?_
          refine ev_istore (lv' := [(0, .ref 65), (1, .int (nI p)), (2, .int (nI q)), (3, .int (A 66 p)), (4, .int (nI tq)), (5, .int (A 70 (4 * p + tq))), (6, .int (A 70 (4 * p + tq))), (7, .int ((A 70 (4 * p + tq)) + 2))]) dX7_knows_110 (by decide) rfl ?_
          refine ev_iload dX7_knows_112 rfl ?_
          refine ev_iconst (v := 0) dX7_knows_114 (by decide) ?_
          refine ev_bipush (v := 9) dX7_knows_115 (by decide) ?_
          refine ev_callS (as := [.int ((A 70 (4 * p + tq)) + 2), .int 0, .int 9]) (st := []) dX7_knows_117 mfX7_within lk_X7_170 (c_X7_within G D σ ((A 70 (4 * p + tq)) + 2) 0 9) rfl rfl (Nat.le_of_ble_eq_true rfl) (am_hR (by omega) (by decide)) ⟨Nat.le_refl _, Nat.le_refl _⟩ ?_
          rintro _ _ ⟨rfl, rfl⟩
          refine ev_reti dX7_knows_120 rfl (Nat.zero_le _) (Nat.zero_le _) ?_
          have e : s_kv A p (A 71 q) (nI q) (A 70 (4 * p + sN (A 71 q))) = ((A 70 (4 * p + tq)) + 2) := by
            rw [etq, sN_n (by omega)]
            simp [s_kv, c1, c2, c3, c4]
          exact ⟨by unfold s_kn; rw [e], rfl⟩
      · skip
        refine ev_iload dX7_knows_67 rfl ?_
        refine ev_iload_n dX7_knows_69 rfl rfl ?_
        refine ev_iconst (v := 3) dX7_knows_70 (by decide) ?_
        refine ev_idiv (v := (nI q) / 3) dX7_knows_71 (by decide) rfl ?_
        refine ev_isub (v := (A 70 (4 * p + tq)) - ((nI q) / 3)) dX7_knows_72 rfl ?_
        refine ev_goto (tgt := 110) dX7_knows_73 (by decide) ?_
        refine ev_istore (lv' := [(0, .ref 65), (1, .int (nI p)), (2, .int (nI q)), (3, .int (A 66 p)), (4, .int (nI tq)), (5, .int (A 70 (4 * p + tq))), (6, .int (A 70 (4 * p + tq))), (7, .int ((A 70 (4 * p + tq)) - ((nI q) / 3)))]) dX7_knows_110 (by decide) rfl ?_
        refine ev_iload dX7_knows_112 rfl ?_
        refine ev_iconst (v := 0) dX7_knows_114 (by decide) ?_
        refine ev_bipush (v := 9) dX7_knows_115 (by decide) ?_
        refine ev_callS (as := [.int ((A 70 (4 * p + tq)) - ((nI q) / 3)), .int 0, .int 9]) (st := []) dX7_knows_117 mfX7_within lk_X7_170 (c_X7_within G D σ ((A 70 (4 * p + tq)) - ((nI q) / 3)) 0 9) rfl rfl (Nat.le_of_ble_eq_true rfl) (am_hR (by omega) (by decide)) ⟨Nat.le_refl _, Nat.le_refl _⟩ ?_
        rintro _ _ ⟨rfl, rfl⟩
        refine ev_reti dX7_knows_120 rfl (Nat.zero_le _) (Nat.zero_le _) ?_
        have e : s_kv A p (A 71 q) (nI q) (A 70 (4 * p + sN (A 71 q))) = ((A 70 (4 * p + tq)) - ((nI q) / 3)) := by
          rw [etq, sN_n (by omega)]
          simp [s_kv, c1, c2, c3]
        exact ⟨by unfold s_kn; rw [e], rfl⟩
    · skip
      refine ev_iload dX7_knows_57 rfl ?_
      refine ev_goto (tgt := 110) dX7_knows_59 (by decide) ?_
      refine ev_istore (lv' := [(0, .ref 65), (1, .int (nI p)), (2, .int (nI q)), (3, .int (A 66 p)), (4, .int (nI tq)), (5, .int (A 70 (4 * p + tq))), (6, .int (A 70 (4 * p + tq))), (7, .int (A 70 (4 * p + tq)))]) dX7_knows_110 (by decide) rfl ?_
      refine ev_iload dX7_knows_112 rfl ?_
      refine ev_iconst (v := 0) dX7_knows_114 (by decide) ?_
      refine ev_bipush (v := 9) dX7_knows_115 (by decide) ?_
      refine ev_callS (as := [.int (A 70 (4 * p + tq)), .int 0, .int 9]) (st := []) dX7_knows_117 mfX7_within lk_X7_170 (c_X7_within G D σ (A 70 (4 * p + tq)) 0 9) rfl rfl (Nat.le_of_ble_eq_true rfl) (am_hR (by omega) (by decide)) ⟨Nat.le_refl _, Nat.le_refl _⟩ ?_
      rintro _ _ ⟨rfl, rfl⟩
      refine ev_reti dX7_knows_120 rfl (Nat.zero_le _) (Nat.zero_le _) ?_
      have e : s_kv A p (A 71 q) (nI q) (A 70 (4 * p + sN (A 71 q))) = (A 70 (4 * p + tq)) := by
        rw [etq, sN_n (by omega)]
        simp [s_kv, c1, c2]
      exact ⟨by unfold s_kn; rw [e], rfl⟩
  · skip
    refine ev_iload dX7_knows_41 rfl ?_
    refine ev_iconst (v := 3) dX7_knows_43 (by decide) ?_
    refine ev_iadd (v := (A 70 (4 * p + tq)) + 3) dX7_knows_44 rfl ?_
    refine ev_goto (tgt := 50) dX7_knows_45 (by decide) ?_
    refine ev_istore (lv' := [(0, .ref 65), (1, .int (nI p)), (2, .int (nI q)), (3, .int (A 66 p)), (4, .int (nI tq)), (5, .int (A 70 (4 * p + tq))), (6, .int ((A 70 (4 * p + tq)) + 3))]) dX7_knows_50 (by decide) rfl ?_
    refine ev_iload_n dX7_knows_52 rfl rfl ?_
    refine ev_iconst (v := 1) dX7_knows_53 (by decide) ?_
    refine ev_icmp_ne (tgt := 62) dX7_knows_54 (by decide) (fun c7 => ?_) (fun c7 => ?_)
    · skip
      refine ev_iload_n dX7_knows_62 rfl rfl ?_
      refine ev_iconst (v := 3) dX7_knows_63 (by decide) ?_
      refine ev_icmp_ne (tgt := 76) dX7_knows_64 (by decide) (fun c8 => ?_) (fun c8 => ?_)
      · skip
        refine ev_iload_n dX7_knows_76 rfl rfl ?_
        refine ev_iconst (v := 4) dX7_knows_77 (by decide) ?_
        refine ev_icmp_ne (tgt := 88) dX7_knows_78 (by decide) (fun c9 => ?_) (fun c9 => ?_)
        · skip
          refine ev_iload_n dX7_knows_88 rfl rfl ?_
          refine ev_iconst (v := 5) dX7_knows_89 (by decide) ?_
          refine ev_icmp_ne (tgt := 108) dX7_knows_90 (by decide) (fun c10 => ?_) (fun c10 => ?_)
          · skip
            refine ev_iload dX7_knows_108 rfl ?_
            refine ev_istore (lv' := [(0, .ref 65), (1, .int (nI p)), (2, .int (nI q)), (3, .int (A 66 p)), (4, .int (nI tq)), (5, .int (A 70 (4 * p + tq))), (6, .int ((A 70 (4 * p + tq)) + 3)), (7, .int (A 70 (4 * p + tq)))]) dX7_knows_110 (by decide) rfl ?_
            refine ev_iload dX7_knows_112 rfl ?_
            refine ev_iconst (v := 0) dX7_knows_114 (by decide) ?_
            refine ev_bipush (v := 9) dX7_knows_115 (by decide) ?_
            refine ev_callS (as := [.int (A 70 (4 * p + tq)), .int 0, .int 9]) (st := []) dX7_knows_117 mfX7_within lk_X7_170 (c_X7_within G D σ (A 70 (4 * p + tq)) 0 9) rfl rfl (Nat.le_of_ble_eq_true rfl) (am_hR (by omega) (by decide)) ⟨Nat.le_refl _, Nat.le_refl _⟩ ?_
            rintro _ _ ⟨rfl, rfl⟩
            refine ev_reti dX7_knows_120 rfl (Nat.zero_le _) (Nat.zero_le _) ?_
            have e : s_kv A p (A 71 q) (nI q) (A 70 (4 * p + sN (A 71 q))) = (A 70 (4 * p + tq)) := by
              rw [etq, sN_n (by omega)]
              simp [s_kv, c1, c7, c8, c9, c10]
            exact ⟨by unfold s_kn; rw [e], rfl⟩
          · skip
            refine ev_iload_n dX7_knows_93 rfl rfl ?_
            refine ev_aload_n dX7_knows_94 rfl rfl ?_
            refine ev_getR (b := 68) dX7_knows_95 fl_X7_16 (ly_k hI.ly 65 rfl) (ly_r hI.ly 31 rfl) ?_
            refine ev_iload_n dX7_knows_98 rfl rfl ?_
            refine ev_iald (v := A 68 p) dX7_knows_99 (ly_k hI.ly 68 rfl) (am_ixn (by omega) (by decide)) (hI.rd 68 p rfl) ?_
            refine ev_icmp_lt (tgt := 108) dX7_knows_100 (by decide) (fun c11 => ?_) (fun c11 => ?_)
            · skip
              refine ev_iload dX7_knows_108 rfl ?_
              refine ev_istore (lv' := [(0, .ref 65), (1, .int (nI p)), (2, .int (nI q)), (3, .int (A 66 p)), (4, .int (nI tq)), (5, .int (A 70 (4 * p + tq))), (6, .int ((A 70 (4 * p + tq)) + 3)), (7, .int (A 70 (4 * p + tq)))]) dX7_knows_110 (by decide) rfl ?_
              refine ev_iload dX7_knows_112 rfl ?_
              refine ev_iconst (v := 0) dX7_knows_114 (by decide) ?_
              refine ev_bipush (v := 9) dX7_knows_115 (by decide) ?_
              refine ev_callS (as := [.int (A 70 (4 * p + tq)), .int 0, .int 9]) (st := []) dX7_knows_117 mfX7_within lk_X7_170 (c_X7_within G D σ (A 70 (4 * p + tq)) 0 9) rfl rfl (Nat.le_of_ble_eq_true rfl) (am_hR (by omega) (by decide)) ⟨Nat.le_refl _, Nat.le_refl _⟩ ?_
              rintro _ _ ⟨rfl, rfl⟩
              refine ev_reti dX7_knows_120 rfl (Nat.zero_le _) (Nat.zero_le _) ?_
              have e : s_kv A p (A 71 q) (nI q) (A 70 (4 * p + sN (A 71 q))) = (A 70 (4 * p + tq)) := by
                rw [etq, sN_n (by omega)]
                simp [s_kv, c1, c7, c8, c9, c10, c11, Int32.not_le.mpr c11]
              exact ⟨by unfold s_kn; rw [e], rfl⟩
            · skip
              refine ev_bipush (v := 9) dX7_knows_103 (by decide) ?_
              refine ev_goto (tgt := 110) dX7_knows_105 (by decide) ?_
              refine ev_istore (lv' := [(0, .ref 65), (1, .int (nI p)), (2, .int (nI q)), (3, .int (A 66 p)), (4, .int (nI tq)), (5, .int (A 70 (4 * p + tq))), (6, .int ((A 70 (4 * p + tq)) + 3)), (7, .int 9)]) dX7_knows_110 (by decide) rfl ?_
              refine ev_iload dX7_knows_112 rfl ?_
              refine ev_iconst (v := 0) dX7_knows_114 (by decide) ?_
              refine ev_bipush (v := 9) dX7_knows_115 (by decide) ?_
              refine ev_callS (as := [.int 9, .int 0, .int 9]) (st := []) dX7_knows_117 mfX7_within lk_X7_170 (c_X7_within G D σ 9 0 9) rfl rfl (Nat.le_of_ble_eq_true rfl) (am_hR (by omega) (by decide)) ⟨Nat.le_refl _, Nat.le_refl _⟩ ?_
              rintro _ _ ⟨rfl, rfl⟩
              refine ev_reti dX7_knows_120 rfl (Nat.zero_le _) (Nat.zero_le _) ?_
              have e : s_kv A p (A 71 q) (nI q) (A 70 (4 * p + sN (A 71 q))) = 9 := by
                rw [etq, sN_n (by omega)]
                simp [s_kv, c1, c7, c8, c9, c10, c11, Int32.not_lt.mp c11]
              exact ⟨by unfold s_kn; rw [e], rfl⟩
        · skip
          refine ev_iload dX7_knows_81 rfl ?_
          refine ev_iconst (v := 2) dX7_knows_83 (by decide) ?_
          refine ev_iadd (v := (A 70 (4 * p + tq)) + 2) dX7_knows_84 rfl ?_
          refine ev_goto (tgt := 110) dX7_knows_85 (by decide) ?_
          refine ev_istore (lv' := [(0, .ref 65), (1, .int (nI p)), (2, .int (nI q)), (3, .int (A 66 p)), (4, .int (nI tq)), (5, .int (A 70 (4 * p + tq))), (6, .int ((A 70 (4 * p + tq)) + 3)), (7, .int ((A 70 (4 * p + tq)) + 2))]) dX7_knows_110 (by decide) rfl ?_
          refine ev_iload dX7_knows_112 rfl ?_
          refine ev_iconst (v := 0) dX7_knows_114 (by decide) ?_
          refine ev_bipush (v := 9) dX7_knows_115 (by decide) ?_
          refine ev_callS (as := [.int ((A 70 (4 * p + tq)) + 2), .int 0, .int 9]) (st := []) dX7_knows_117 mfX7_within lk_X7_170 (c_X7_within G D σ ((A 70 (4 * p + tq)) + 2) 0 9) rfl rfl (Nat.le_of_ble_eq_true rfl) (am_hR (by omega) (by decide)) ⟨Nat.le_refl _, Nat.le_refl _⟩ ?_
          rintro _ _ ⟨rfl, rfl⟩
          refine ev_reti dX7_knows_120 rfl (Nat.zero_le _) (Nat.zero_le _) ?_
          have e : s_kv A p (A 71 q) (nI q) (A 70 (4 * p + sN (A 71 q))) = ((A 70 (4 * p + tq)) + 2) := by
            rw [etq, sN_n (by omega)]
            simp [s_kv, c1, c7, c8, c9]
          exact ⟨by unfold s_kn; rw [e], rfl⟩
      · skip
        refine ev_iload dX7_knows_67 rfl ?_
        refine ev_iload_n dX7_knows_69 rfl rfl ?_
        refine ev_iconst (v := 3) dX7_knows_70 (by decide) ?_
        refine ev_idiv (v := (nI q) / 3) dX7_knows_71 (by decide) rfl ?_
        refine ev_isub (v := ((A 70 (4 * p + tq)) + 3) - ((nI q) / 3)) dX7_knows_72 rfl ?_
        refine ev_goto (tgt := 110) dX7_knows_73 (by decide) ?_
        refine ev_istore (lv' := [(0, .ref 65), (1, .int (nI p)), (2, .int (nI q)), (3, .int (A 66 p)), (4, .int (nI tq)), (5, .int (A 70 (4 * p + tq))), (6, .int ((A 70 (4 * p + tq)) + 3)), (7, .int (((A 70 (4 * p + tq)) + 3) - ((nI q) / 3)))]) dX7_knows_110 (by decide) rfl ?_
        refine ev_iload dX7_knows_112 rfl ?_
        refine ev_iconst (v := 0) dX7_knows_114 (by decide) ?_
        refine ev_bipush (v := 9) dX7_knows_115 (by decide) ?_
        refine ev_callS (as := [.int (((A 70 (4 * p + tq)) + 3) - ((nI q) / 3)), .int 0, .int 9]) (st := []) dX7_knows_117 mfX7_within lk_X7_170 (c_X7_within G D σ (((A 70 (4 * p + tq)) + 3) - ((nI q) / 3)) 0 9) rfl rfl (Nat.le_of_ble_eq_true rfl) (am_hR (by omega) (by decide)) ⟨Nat.le_refl _, Nat.le_refl _⟩ ?_
        rintro _ _ ⟨rfl, rfl⟩
        refine ev_reti dX7_knows_120 rfl (Nat.zero_le _) (Nat.zero_le _) ?_
        have e : s_kv A p (A 71 q) (nI q) (A 70 (4 * p + sN (A 71 q))) = (((A 70 (4 * p + tq)) + 3) - ((nI q) / 3)) := by
          rw [etq, sN_n (by omega)]
          simp [s_kv, c1, c7, c8]
        exact ⟨by unfold s_kn; rw [e], rfl⟩
    · skip
      refine ev_iload dX7_knows_57 rfl ?_
      refine ev_goto (tgt := 110) dX7_knows_59 (by decide) ?_
      refine ev_istore (lv' := [(0, .ref 65), (1, .int (nI p)), (2, .int (nI q)), (3, .int (A 66 p)), (4, .int (nI tq)), (5, .int (A 70 (4 * p + tq))), (6, .int ((A 70 (4 * p + tq)) + 3)), (7, .int ((A 70 (4 * p + tq)) + 3))]) dX7_knows_110 (by decide) rfl ?_
      refine ev_iload dX7_knows_112 rfl ?_
      refine ev_iconst (v := 0) dX7_knows_114 (by decide) ?_
      refine ev_bipush (v := 9) dX7_knows_115 (by decide) ?_
      refine ev_callS (as := [.int ((A 70 (4 * p + tq)) + 3), .int 0, .int 9]) (st := []) dX7_knows_117 mfX7_within lk_X7_170 (c_X7_within G D σ ((A 70 (4 * p + tq)) + 3) 0 9) rfl rfl (Nat.le_of_ble_eq_true rfl) (am_hR (by omega) (by decide)) ⟨Nat.le_refl _, Nat.le_refl _⟩ ?_
      rintro _ _ ⟨rfl, rfl⟩
      refine ev_reti dX7_knows_120 rfl (Nat.zero_le _) (Nat.zero_le _) ?_
      have e : s_kv A p (A 71 q) (nI q) (A 70 (4 * p + sN (A 71 q))) = ((A 70 (4 * p + tq)) + 3) := by
        rw [etq, sN_n (by omega)]
        simp [s_kv, c1, c7]
      exact ⟨by unfold s_kn; rw [e], rfl⟩

set_option maxHeartbeats 400000 in
set_option maxRecDepth 100000 in
theorem c_X7_loudOf (G : am_G) (D : Nat) (A : am_S) (σ : am_M) (hA : wf_A A) (hI : iv_M A σ) (p : Nat) (tq : Int32) (hp : p < s_np A) : am_Mt G D mX7_loudOf [.ref 65, .int (nI p), .int tq] σ 0 0 (am_q (.int (s_ld A p tq)) σ) := by
  have b7 := wf_np7 hA
  have b8 := wf_nq8 hA
  have b6 := wf_nt6 hA
  have b61 := wf_nt1 hA
  have b160 := wf_tp160 hA
  have brl := wf_rlt hA
  refine am_of moX7_loudOf (Nat.le_of_ble_eq_true rfl) ?_
  show am_Ev G mX7_loudOf (am_R D 0 0) 0 0 (am_q (.int (s_ld A p tq)) σ) 0 [(0, .ref 65), (1, .int (nI p)), (2, .int tq)] [] σ 0 0
  refine ev_aload_n dX7_loudOf_0 rfl rfl ?_
  refine ev_getR (b := 66) dX7_loudOf_1 fl_X7_7 (ly_k hI.ly 65 rfl) (ly_r hI.ly 29 rfl) ?_
  refine ev_iload_n dX7_loudOf_4 rfl rfl ?_
  refine ev_iald (v := A 66 p) dX7_loudOf_5 (ly_k hI.ly 66 rfl) (am_ixn (by omega) (by decide)) (hI.rd 66 p rfl) ?_
  refine ev_istore_n (lv' := [(0, .ref 65), (1, .int (nI p)), (2, .int tq), (3, .int (A 66 p))]) dX7_loudOf_6 rfl (by decide) rfl ?_
  refine ev_aload_n dX7_loudOf_7 rfl rfl ?_
  refine ev_getR (b := 67) dX7_loudOf_8 fl_X7_13 (ly_k hI.ly 65 rfl) (ly_r hI.ly 30 rfl) ?_
  refine ev_iload_n dX7_loudOf_11 rfl rfl ?_
  refine ev_iald (v := A 67 p) dX7_loudOf_12 (ly_k hI.ly 67 rfl) (am_ixn (by omega) (by decide)) (hI.rd 67 p rfl) ?_
  refine ev_iconst (v := 3) dX7_loudOf_13 (by decide) ?_
  refine ev_idiv (v := (A 67 p) / 3) dX7_loudOf_14 (by decide) rfl ?_
  refine ev_istore (lv' := [(0, .ref 65), (1, .int (nI p)), (2, .int tq), (3, .int (A 66 p)), (4, .int ((A 67 p) / 3))]) dX7_loudOf_15 (by decide) rfl ?_
  refine ev_iload_n dX7_loudOf_17 rfl rfl ?_
  refine ev_iconst (v := 2) dX7_loudOf_18 (by decide) ?_
  refine ev_icmp_ne (tgt := 27) dX7_loudOf_19 (by decide) (fun c1 => ?_) (fun c1 => ?_)
  · skip
    refine ev_iload_n dX7_loudOf_27 rfl rfl ?_
    refine ev_iconst (v := 3) dX7_loudOf_28 (by decide) ?_
    refine ev_icmp_ne (tgt := 45) dX7_loudOf_29 (by decide) (fun c2 => ?_) (fun c2 => ?_)
    · skip
      refine ev_iload_n dX7_loudOf_45 rfl rfl ?_
      refine ev_iconst (v := 4) dX7_loudOf_46 (by decide) ?_
      refine ev_icmp_ne (tgt := 71) dX7_loudOf_47 (by decide) (fun c3 => ?_) (fun c3 => ?_)
      · skip
        refine ev_aload_n dX7_loudOf_71 rfl rfl ?_
        refine ev_getR (b := 67) dX7_loudOf_72 fl_X7_13 (ly_k hI.ly 65 rfl) (ly_r hI.ly 30 rfl) ?_
        refine ev_iload_n dX7_loudOf_75 rfl rfl ?_
        refine ev_iald (v := A 67 p) dX7_loudOf_76 (ly_k hI.ly 67 rfl) (am_ixn (by omega) (by decide)) (hI.rd 67 p rfl) ?_
        refine ev_reti dX7_loudOf_77 rfl (Nat.zero_le _) (Nat.zero_le _) ?_
        exact ⟨by simp [s_ld, c1, c2, c3], rfl⟩
      · skip
        refine ev_iload_n dX7_loudOf_50 rfl rfl ?_
        refine ev_aload_n dX7_loudOf_51 rfl rfl ?_
        refine ev_getR (b := 68) dX7_loudOf_52 fl_X7_16 (ly_k hI.ly 65 rfl) (ly_r hI.ly 31 rfl) ?_
        refine ev_iload_n dX7_loudOf_55 rfl rfl ?_
        refine ev_iald (v := A 68 p) dX7_loudOf_56 (ly_k hI.ly 68 rfl) (am_ixn (by omega) (by decide)) (hI.rd 68 p rfl) ?_
        refine ev_iconst (v := 4) dX7_loudOf_57 (by decide) ?_
        refine ev_irem (v := (A 68 p) - (A 68 p) / 4 * 4) dX7_loudOf_58 (by decide) rfl ?_
        refine ev_icmp_ne (tgt := 67) dX7_loudOf_59 (by decide) (fun c4 => ?_) (fun c4 => ?_)
        · skip
          refine ev_iconst (v := 0) dX7_loudOf_67 (by decide) ?_
          refine ev_goto (tgt := 77) dX7_loudOf_68 (by decide) ?_
          refine ev_reti dX7_loudOf_77 rfl (Nat.zero_le _) (Nat.zero_le _) ?_
          exact ⟨by simp [s_ld, c1, c2, c3, c4], rfl⟩
        · skip
          refine ev_iload dX7_loudOf_62 rfl ?_
          refine ev_goto (tgt := 77) dX7_loudOf_64 (by decide) ?_
          refine ev_reti dX7_loudOf_77 rfl (Nat.zero_le _) (Nat.zero_le _) ?_
          exact ⟨by simp [s_ld, c1, c2, c3, c4], rfl⟩
    · skip
      refine ev_iconst (v := 2) dX7_loudOf_32 (by decide) ?_
      refine ev_aload_n dX7_loudOf_33 rfl rfl ?_
      refine ev_getR (b := 67) dX7_loudOf_34 fl_X7_13 (ly_k hI.ly 65 rfl) (ly_r hI.ly 30 rfl) ?_
      refine ev_iload_n dX7_loudOf_37 rfl rfl ?_
      refine ev_iald (v := A 67 p) dX7_loudOf_38 (ly_k hI.ly 67 rfl) (am_ixn (by omega) (by decide)) (hI.rd 67 p rfl) ?_
      refine ev_imul (v := 2 * (A 67 p)) dX7_loudOf_39 rfl ?_
      refine ev_iconst (v := 5) dX7_loudOf_40 (by decide) ?_
      refine ev_iadd (v := (2 * (A 67 p)) + 5) dX7_loudOf_41 rfl ?_
      refine ev_goto (tgt := 77) dX7_loudOf_42 (by decide) ?_
      refine ev_reti dX7_loudOf_77 rfl (Nat.zero_le _) (Nat.zero_le _) ?_
      exact ⟨by simp [s_ld, c1, c2], rfl⟩
  · skip
    refine ev_iload dX7_loudOf_22 rfl ?_
    refine ev_goto (tgt := 77) dX7_loudOf_24 (by decide) ?_
    refine ev_reti dX7_loudOf_77 rfl (Nat.zero_le _) (Nat.zero_le _) ?_
    exact ⟨by simp [s_ld, c1], rfl⟩

set_option maxHeartbeats 400000 in
set_option maxRecDepth 100000 in
theorem c_X7_weight (G : am_G) (D : Nat) (A : am_S) (σ : am_M) (hA : wf_A A) (hI : iv_M A σ) (p q : Nat) (hp : p < s_np A) (hq : q < s_nq A) : am_Mt G (D + 3) mX7_weight [.ref 65, .int (nI p), .int (nI q)] σ 0 0 (am_qM A (.int (s_wt A p q)) σ) := by
  have b7 := wf_np7 hA
  have b8 := wf_nq8 hA
  have b6 := wf_nt6 hA
  have b61 := wf_nt1 hA
  have b160 := wf_tp160 hA
  have brl := wf_rlt hA
  refine am_of moX7_weight (Nat.le_of_ble_eq_true rfl) ?_
  show am_Ev G mX7_weight (am_R (D + 3) 0 0) 0 0 (am_qM A (.int (s_wt A p q)) σ) 0 [(0, .ref 65), (1, .int (nI p)), (2, .int (nI q))] [] σ 0 0
  refine ev_aload_n dX7_weight_0 rfl rfl ?_
  refine ev_iconst (v := 0) dX7_weight_1 (by decide) ?_
  refine ev_aload_n dX7_weight_2 rfl rfl ?_
  refine ev_iload_n dX7_weight_3 rfl rfl ?_
  refine ev_iload_n dX7_weight_4 rfl rfl ?_
  refine ev_callV (as := [.int (nI p), .int (nI q)]) (st := [.int 0, .ref 65]) dX7_weight_5 mfX7_knows lk_X7_186 (ly_k hI.ly 65 rfl) (by decide) rfl (c_X7_knows G (D + 1) A σ hA hI p q (by omega) (by omega)) rfl rfl (Nat.le_of_ble_eq_true rfl) (am_hR (by omega) (by decide)) ⟨Nat.le_refl _, Nat.le_refl _⟩ ?_
  rintro _ _ ⟨rfl, rfl⟩
  refine ev_aload_n dX7_weight_8 rfl rfl ?_
  refine ev_getR (b := 72) dX7_weight_9 fl_X7_28 (ly_k hI.ly 65 rfl) (ly_r hI.ly 35 rfl) ?_
  refine ev_iload_n dX7_weight_12 rfl rfl ?_
  refine ev_iald (v := A 72 q) dX7_weight_13 (ly_k hI.ly 72 rfl) (am_ixn (by omega) (by decide)) (hI.rd 72 q rfl) ?_
  refine ev_aload_n dX7_weight_14 rfl rfl ?_
  refine ev_iload_n dX7_weight_15 rfl rfl ?_
  refine ev_aload_n dX7_weight_16 rfl rfl ?_
  refine ev_getR (b := 71) dX7_weight_17 fl_X7_25 (ly_k hI.ly 65 rfl) (ly_r hI.ly 34 rfl) ?_
  refine ev_iload_n dX7_weight_20 rfl rfl ?_
  refine ev_iald (v := A 71 q) dX7_weight_21 (ly_k hI.ly 71 rfl) (am_ixn (by omega) (by decide)) (hI.rd 71 q rfl) ?_
  refine ev_callV (as := [.int (nI p), .int (A 71 q)]) (st := [.int (A 72 q), .int (s_kn A p q), .int 0, .ref 65]) dX7_weight_22 mfX7_loudOf lk_X7_189 (ly_k hI.ly 65 rfl) (by decide) rfl (c_X7_loudOf G (D + 2) A σ hA hI p (A 71 q) (by omega)) rfl rfl (Nat.le_of_ble_eq_true rfl) (am_hR (by omega) (by decide)) ⟨Nat.le_refl _, Nat.le_refl _⟩ ?_
  rintro _ _ ⟨rfl, rfl⟩
  refine ev_aload_n dX7_weight_25 rfl rfl ?_
  refine ev_getR (b := 71) dX7_weight_26 fl_X7_25 (ly_k hI.ly 65 rfl) (ly_r hI.ly 34 rfl) ?_
  refine ev_iload_n dX7_weight_29 rfl rfl ?_
  refine ev_iald (v := A 71 q) dX7_weight_30 (ly_k hI.ly 71 rfl) (am_ixn (by omega) (by decide)) (hI.rd 71 q rfl) ?_
  refine ev_iload_n dX7_weight_31 rfl rfl ?_
  refine ev_iload_n dX7_weight_32 rfl rfl ?_
  refine ev_callV (as := [.int 0, .int (s_kn A p q), .int (A 72 q), .int (s_ld A p (A 71 q)), .int (A 71 q), .int (nI q), .int (nI p)]) (st := []) dX7_weight_33 mfX7_asksOf lk_X7_173 (ly_k hI.ly 65 rfl) (by decide) rfl (c_X7_asksOf G D A σ hA hI 0 (by omega) (s_kn A p q) (A 72 q) (s_ld A p (A 71 q)) (A 71 q) (nI q) (nI p)) rfl rfl (Nat.le_of_ble_eq_true rfl) (am_hR (by omega) (by decide)) ⟨Nat.le_refl _, Nat.le_refl _⟩ ?_
  rintro _ σ1 ⟨rfl, hI1, hF1⟩
  refine ev_reti dX7_weight_36 rfl (Nat.zero_le _) (Nat.zero_le _) ?_
  exact ⟨rfl, hI1, (fr_M.tr fr_M.rf hF1)⟩

set_option maxHeartbeats 400000 in
set_option maxRecDepth 100000 in
theorem c_X7_canAnswer (G : am_G) (D : Nat) (A : am_S) (σ : am_M) (hA : wf_A A) (hI : iv_M A σ) (p q : Nat) (hp : p < s_np A) (hq : q < s_nq A) : am_Mt G (D + 2) mX7_canAnswer [.ref 65, .int (nI p), .int (nI q)] σ 0 0 (am_zq (s_cn A p q = true) σ) := by
  have b7 := wf_np7 hA
  have b8 := wf_nq8 hA
  have b6 := wf_nt6 hA
  have b61 := wf_nt1 hA
  have b160 := wf_tp160 hA
  have brl := wf_rlt hA
  refine am_of moX7_canAnswer (Nat.le_of_ble_eq_true rfl) ?_
  show am_Ev G mX7_canAnswer (am_R (D + 2) 0 0) 0 0 (am_zq (s_cn A p q = true) σ) 0 [(0, .ref 65), (1, .int (nI p)), (2, .int (nI q))] [] σ 0 0
  refine ev_aload_n dX7_canAnswer_0 rfl rfl ?_
  refine ev_iload_n dX7_canAnswer_1 rfl rfl ?_
  refine ev_iload_n dX7_canAnswer_2 rfl rfl ?_
  refine ev_callV (as := [.int (nI p), .int (nI q)]) (st := []) dX7_canAnswer_3 mfX7_knows lk_X7_186 (ly_k hI.ly 65 rfl) (by decide) rfl (c_X7_knows G D A σ hA hI p q (by omega) (by omega)) rfl rfl (Nat.le_of_ble_eq_true rfl) (am_hR (by omega) (by decide)) ⟨Nat.le_refl _, Nat.le_refl _⟩ ?_
  rintro _ _ ⟨rfl, rfl⟩
  refine ev_aload_n dX7_canAnswer_6 rfl rfl ?_
  refine ev_getR (b := 72) dX7_canAnswer_7 fl_X7_28 (ly_k hI.ly 65 rfl) (ly_r hI.ly 35 rfl) ?_
  refine ev_iload_n dX7_canAnswer_10 rfl rfl ?_
  refine ev_iald (v := A 72 q) dX7_canAnswer_11 (ly_k hI.ly 72 rfl) (am_ixn (by omega) (by decide)) (hI.rd 72 q rfl) ?_
  refine ev_icmp_lt (tgt := 19) dX7_canAnswer_12 (by decide) (fun c1 => ?_) (fun c1 => ?_)
  · skip
    refine ev_iconst (v := 0) dX7_canAnswer_19 (by decide) ?_
    refine ev_retz dX7_canAnswer_20 rfl (Or.inl rfl) (Nat.zero_le _) (Nat.zero_le _) ?_
    exact Or.inr ⟨fun z => absurd c1 (Int32.not_lt.mpr (of_decide_eq_true z)), rfl, rfl⟩
  · skip
    refine ev_iconst (v := 1) dX7_canAnswer_15 (by decide) ?_
    refine ev_goto (tgt := 20) dX7_canAnswer_16 (by decide) ?_
    refine ev_retz dX7_canAnswer_20 rfl (Or.inr rfl) (Nat.zero_le _) (Nat.zero_le _) ?_
    exact Or.inl ⟨decide_eq_true (Int32.not_lt.mp c1), rfl, rfl⟩

set_option maxHeartbeats 400000 in
set_option maxRecDepth 100000 in
theorem c_X7_believed (G : am_G) (D : Nat) (A : am_S) (σ : am_M) (hA : wf_A A) (hI : iv_M A σ) (T q : Nat) (hq : q < s_nq A) : am_Mt G (D + 4) mX7_believed [.ref 65, .int (nI T), .int (nI q)] σ 0 0 (am_qM A (.int (s_bi (s_be A (s_se A T) q))) σ) := by
  have b7 := wf_np7 hA
  have b8 := wf_nq8 hA
  have b6 := wf_nt6 hA
  have b61 := wf_nt1 hA
  have b160 := wf_tp160 hA
  have brl := wf_rlt hA
  refine am_of moX7_believed (Nat.le_of_ble_eq_true rfl) ?_
  show am_Ev G mX7_believed (am_R (D + 4) 0 0) 0 0 (am_qM A (.int (s_bi (s_be A (s_se A T) q))) σ) 0 [(0, .ref 65), (1, .int (nI T)), (2, .int (nI q))] [] σ 0 0
  have lp : ∀ (f : Nat) (p : Nat) (best : Int32) (most : Int32) (σ1 : am_M), (p ≤ s_np A) → (best = s_bi (s_bl A (s_se A T) q p)) → (∀ b, s_bl A (s_se A T) q p = some b → most = s_wt A b q) → (iv_M A σ1) → (fr_M σ σ1) → s_np A - p < f → am_Ev G mX7_believed (am_R (D + 4) 0 0) 0 0 (am_qM A (.int (s_bi (s_be A (s_se A T) q))) σ) 8 [(0, .ref 65), (1, .int (nI T)), (2, .int (nI q)), (3, .int best), (4, .int most), (5, .int (nI p))] [] σ1 0 0 := by
    intro f
    induction f with
    | zero => intro p best most σ1 hp hb hm hI hF hf; exact absurd hf (Nat.not_lt_zero _)
    | succ f ih =>
      intro p best most σ1 hp hb hm hI hF hf
      cases ho : s_bl A (s_se A T) q p with
      | none =>
        rw [ho] at hb; subst hb
        change am_Ev G mX7_believed (am_R (D + 4) 0 0) 0 0 (am_qM A (.int (s_bi (s_be A (s_se A T) q))) σ) 8 [(0, .ref 65), (1, .int (nI T)), (2, .int (nI q)), (3, .int (-1)), (4, .int most), (5, .int (nI p))] [] σ1 0 0
        refine ev_iload dX7_believed_8 rfl ?_
        refine ev_aload_n dX7_believed_10 rfl rfl ?_
        refine ev_getI (v := nI (s_np A)) dX7_believed_11 fl_X7_87 (ly_k hI.ly 65 rfl) ((hI.rd 65 0 rfl).trans (wf_np hA)) ?_
        refine ev_icmp_ge (tgt := 88) dX7_believed_14 (by decide) (fun c1 => ?_) (fun c1 => ?_)
        · skip
          have c1n : (s_np A) ≤ p := (nI_leI (a := (s_np A)) (b := p) (by omega) (by omega)).mp c1
          refine ev_iload_n dX7_believed_88 rfl rfl ?_
          refine ev_reti dX7_believed_89 rfl (Nat.zero_le _) (Nat.zero_le _) ?_
          have e : p = s_np A := by omega
          subst e
          exact ⟨by unfold s_be; rw [ho]; rfl, hI, hF⟩
        · skip
          have c1n : ¬ (s_np A) ≤ p := fun zz => c1 ((nI_leI (a := (s_np A)) (b := p) (by omega) (by omega)).mpr zz)
          refine ev_aload_n dX7_believed_17 rfl rfl ?_
          refine ev_getR (b := 69) dX7_believed_18 fl_X7_19 (ly_k hI.ly 65 rfl) (ly_r hI.ly 32 rfl) ?_
          refine ev_iload dX7_believed_21 rfl ?_
          refine ev_iald (v := A 69 p) dX7_believed_23 (ly_k hI.ly 69 rfl) (am_ixn (by omega) (by decide)) (hI.rd 69 p rfl) ?_
          refine ev_iload_n dX7_believed_24 rfl rfl ?_
          refine ev_icmp_ne (tgt := 82) dX7_believed_25 (by decide) (fun c2 => ?_) (fun c2 => ?_)
          · skip
            have hs : s_se A T p = false := decide_eq_false c2
            refine ev_iinc (lv' := [(0, .ref 65), (1, .int (nI T)), (2, .int (nI q)), (3, .int (-1)), (4, .int most), (5, .int (nI (p + 1)))]) (v := nI (p + 1)) dX7_believed_82 rfl (nI_1 _) (by decide) rfl ?_
            refine ev_goto (tgt := 8) dX7_believed_85 (by decide) ?_
            exact ih (p + 1) (-1) most σ1 (by omega) (by rw [s_blF hs, ho]; rfl) (by intro b2 h2; rw [s_blF hs, ho] at h2; cases h2) hI hF (by omega)
          · skip
            have hs : s_se A T p = true := decide_eq_true c2
            refine ev_aload_n dX7_believed_28 rfl rfl ?_
            refine ev_iload dX7_believed_29 rfl ?_
            refine ev_iload_n dX7_believed_31 rfl rfl ?_
            refine ev_callV (as := [.int (nI p), .int (nI q)]) (st := []) dX7_believed_32 mfX7_weight lk_X7_192 (ly_k hI.ly 65 rfl) (by decide) rfl (c_X7_weight G D A σ1 hA hI p q (by omega) (by omega)) rfl rfl (Nat.le_of_ble_eq_true rfl) (am_hR (by omega) (by decide)) ⟨Nat.le_refl _, Nat.le_refl _⟩ ?_
            rintro _ σ3 ⟨rfl, hI3, hF3⟩
            refine ev_istore (lv' := [(0, .ref 65), (1, .int (nI T)), (2, .int (nI q)), (3, .int (-1)), (4, .int most), (5, .int (nI p)), (6, .int (s_wt A p q))]) dX7_believed_35 (by decide) rfl ?_
            refine ev_iload_n dX7_believed_37 rfl rfl ?_
            refine ev_iconst (v := (-1)) dX7_believed_38 (by decide) ?_
            refine ev_icmp_eq (tgt := 49) dX7_believed_39 (by decide) (fun _ => ?_) (fun c => absurd (by decide) c)
            refine ev_iconst (v := 1) dX7_believed_49 (by decide) ?_
            refine ev_goto (tgt := 54) dX7_believed_50 (by decide) ?_
            refine ev_istore (lv' := [(0, .ref 65), (1, .int (nI T)), (2, .int (nI q)), (3, .int (-1)), (4, .int most), (5, .int (nI p)), (6, .int (s_wt A p q)), (7, .int 1)]) dX7_believed_54 (by decide) rfl ?_
            refine ev_iload dX7_believed_56 rfl ?_
            refine ev_if_eq (tgt := 66) dX7_believed_58 (by decide) (fun c => absurd c (by decide)) (fun _ => ?_)
            refine ev_iload dX7_believed_61 rfl ?_
            refine ev_goto (tgt := 67) dX7_believed_63 (by decide) ?_
            refine ev_istore_n (lv' := [(0, .ref 65), (1, .int (nI T)), (2, .int (nI q)), (3, .int (nI p)), (4, .int most), (5, .int (nI p)), (6, .int (s_wt A p q)), (7, .int 1)]) dX7_believed_67 rfl (by decide) rfl ?_
            refine ev_iload dX7_believed_68 rfl ?_
            refine ev_if_eq (tgt := 78) dX7_believed_70 (by decide) (fun c => absurd c (by decide)) (fun _ => ?_)
            refine ev_iload dX7_believed_73 rfl ?_
            refine ev_goto (tgt := 80) dX7_believed_75 (by decide) ?_
            refine ev_istore (lv' := [(0, .ref 65), (1, .int (nI T)), (2, .int (nI q)), (3, .int (nI p)), (4, .int (s_wt A p q)), (5, .int (nI p)), (6, .int (s_wt A p q)), (7, .int 1)]) dX7_believed_80 (by decide) rfl ?_
            refine ev_iinc (lv' := [(0, .ref 65), (1, .int (nI T)), (2, .int (nI q)), (3, .int (nI p)), (4, .int (s_wt A p q)), (5, .int (nI (p + 1))), (6, .int (s_wt A p q)), (7, .int 1)]) (v := nI (p + 1)) dX7_believed_82 rfl (nI_1 _) (by decide) rfl ?_
            refine ev_goto (tgt := 8) dX7_believed_85 (by decide) ?_
            refine ev_keep (lv' := [(0, .ref 65), (1, .int (nI T)), (2, .int (nI q)), (3, .int (nI p)), (4, .int (s_wt A p q)), (5, .int (nI (p + 1)))]) [0, 1, 2, 3, 4, 5] rfl ?_
            exact ih (p + 1) (nI p) (s_wt A p q) σ3 (by omega) (by rw [s_blN hs ho]; rfl) (by intro b2 h2; rw [s_blN hs ho] at h2; cases h2; rfl) hI3 (fr_M.tr hF hF3) (by omega)
      | some b =>
        have hm2 := hm b ho
        have hbl := (s_bllt ho).1
        rw [ho] at hb; subst hb
        change am_Ev G mX7_believed (am_R (D + 4) 0 0) 0 0 (am_qM A (.int (s_bi (s_be A (s_se A T) q))) σ) 8 [(0, .ref 65), (1, .int (nI T)), (2, .int (nI q)), (3, .int (nI b)), (4, .int most), (5, .int (nI p))] [] σ1 0 0
        refine ev_iload dX7_believed_8 rfl ?_
        refine ev_aload_n dX7_believed_10 rfl rfl ?_
        refine ev_getI (v := nI (s_np A)) dX7_believed_11 fl_X7_87 (ly_k hI.ly 65 rfl) ((hI.rd 65 0 rfl).trans (wf_np hA)) ?_
        refine ev_icmp_ge (tgt := 88) dX7_believed_14 (by decide) (fun c4 => ?_) (fun c4 => ?_)
        · skip
          have c4n : (s_np A) ≤ p := (nI_leI (a := (s_np A)) (b := p) (by omega) (by omega)).mp c4
          refine ev_iload_n dX7_believed_88 rfl rfl ?_
          refine ev_reti dX7_believed_89 rfl (Nat.zero_le _) (Nat.zero_le _) ?_
          have e : p = s_np A := by omega
          subst e
          exact ⟨by unfold s_be; rw [ho]; rfl, hI, hF⟩
        · skip
          have c4n : ¬ (s_np A) ≤ p := fun zz => c4 ((nI_leI (a := (s_np A)) (b := p) (by omega) (by omega)).mpr zz)
          refine ev_aload_n dX7_believed_17 rfl rfl ?_
          refine ev_getR (b := 69) dX7_believed_18 fl_X7_19 (ly_k hI.ly 65 rfl) (ly_r hI.ly 32 rfl) ?_
          refine ev_iload dX7_believed_21 rfl ?_
          refine ev_iald (v := A 69 p) dX7_believed_23 (ly_k hI.ly 69 rfl) (am_ixn (by omega) (by decide)) (hI.rd 69 p rfl) ?_
          refine ev_iload_n dX7_believed_24 rfl rfl ?_
          refine ev_icmp_ne (tgt := 82) dX7_believed_25 (by decide) (fun c5 => ?_) (fun c5 => ?_)
          · skip
            have hs : s_se A T p = false := decide_eq_false c5
            refine ev_iinc (lv' := [(0, .ref 65), (1, .int (nI T)), (2, .int (nI q)), (3, .int (nI b)), (4, .int most), (5, .int (nI (p + 1)))]) (v := nI (p + 1)) dX7_believed_82 rfl (nI_1 _) (by decide) rfl ?_
            refine ev_goto (tgt := 8) dX7_believed_85 (by decide) ?_
            exact ih (p + 1) (nI b) most σ1 (by omega) (by rw [s_blF hs, ho]; rfl) (by intro b2 h2; rw [s_blF hs, ho] at h2; cases h2; exact hm2) hI hF (by omega)
          · skip
            have hs : s_se A T p = true := decide_eq_true c5
            refine ev_aload_n dX7_believed_28 rfl rfl ?_
            refine ev_iload dX7_believed_29 rfl ?_
            refine ev_iload_n dX7_believed_31 rfl rfl ?_
            refine ev_callV (as := [.int (nI p), .int (nI q)]) (st := []) dX7_believed_32 mfX7_weight lk_X7_192 (ly_k hI.ly 65 rfl) (by decide) rfl (c_X7_weight G D A σ1 hA hI p q (by omega) (by omega)) rfl rfl (Nat.le_of_ble_eq_true rfl) (am_hR (by omega) (by decide)) ⟨Nat.le_refl _, Nat.le_refl _⟩ ?_
            rintro _ σ6 ⟨rfl, hI6, hF6⟩
            refine ev_istore (lv' := [(0, .ref 65), (1, .int (nI T)), (2, .int (nI q)), (3, .int (nI b)), (4, .int most), (5, .int (nI p)), (6, .int (s_wt A p q))]) dX7_believed_35 (by decide) rfl ?_
            refine ev_iload_n dX7_believed_37 rfl rfl ?_
            refine ev_iconst (v := (-1)) dX7_believed_38 (by decide) ?_
            refine ev_icmp_eq (tgt := 49) dX7_believed_39 (by decide) (fun c => absurd c (s_bi_n (by omega))) (fun _ => ?_)
            refine ev_iload dX7_believed_42 rfl ?_
            refine ev_iload dX7_believed_44 rfl ?_
            refine ev_icmp_le (tgt := 53) dX7_believed_46 (by decide) (fun c7 => ?_) (fun c7 => ?_)
            · skip
              have hlt : ¬ s_wt A b q < s_wt A p q := by rw [← hm2]; exact Int32.not_lt.mpr c7
              refine ev_iconst (v := 0) dX7_believed_53 (by decide) ?_
              refine ev_istore (lv' := [(0, .ref 65), (1, .int (nI T)), (2, .int (nI q)), (3, .int (nI b)), (4, .int most), (5, .int (nI p)), (6, .int (s_wt A p q)), (7, .int 0)]) dX7_believed_54 (by decide) rfl ?_
              refine ev_iload dX7_believed_56 rfl ?_
              refine ev_if_eq (tgt := 66) dX7_believed_58 (by decide) (fun _ => ?_) (fun c => absurd (by decide) c)
              refine ev_iload_n dX7_believed_66 rfl rfl ?_
              refine ev_istore_n (lv' := [(0, .ref 65), (1, .int (nI T)), (2, .int (nI q)), (3, .int (nI b)), (4, .int most), (5, .int (nI p)), (6, .int (s_wt A p q)), (7, .int 0)]) dX7_believed_67 rfl (by decide) rfl ?_
              refine ev_iload dX7_believed_68 rfl ?_
              refine ev_if_eq (tgt := 78) dX7_believed_70 (by decide) (fun _ => ?_) (fun c => absurd (by decide) c)
              refine ev_iload dX7_believed_78 rfl ?_
              refine ev_istore (lv' := [(0, .ref 65), (1, .int (nI T)), (2, .int (nI q)), (3, .int (nI b)), (4, .int most), (5, .int (nI p)), (6, .int (s_wt A p q)), (7, .int 0)]) dX7_believed_80 (by decide) rfl ?_
              refine ev_iinc (lv' := [(0, .ref 65), (1, .int (nI T)), (2, .int (nI q)), (3, .int (nI b)), (4, .int most), (5, .int (nI (p + 1))), (6, .int (s_wt A p q)), (7, .int 0)]) (v := nI (p + 1)) dX7_believed_82 rfl (nI_1 _) (by decide) rfl ?_
              refine ev_goto (tgt := 8) dX7_believed_85 (by decide) ?_
              refine ev_keep (lv' := [(0, .ref 65), (1, .int (nI T)), (2, .int (nI q)), (3, .int (nI b)), (4, .int most), (5, .int (nI (p + 1)))]) [0, 1, 2, 3, 4, 5] rfl ?_
              exact ih (p + 1) (nI b) most σ6 (by omega) (by rw [s_blL hs ho hlt]; rfl) (by intro b2 h2; rw [s_blL hs ho hlt] at h2; cases h2; exact hm2) hI6 (fr_M.tr hF hF6) (by omega)
            · skip
              have hlt : s_wt A b q < s_wt A p q := by rw [← hm2]; exact Int32.not_le.mp c7
              refine ev_iconst (v := 1) dX7_believed_49 (by decide) ?_
              refine ev_goto (tgt := 54) dX7_believed_50 (by decide) ?_
              refine ev_istore (lv' := [(0, .ref 65), (1, .int (nI T)), (2, .int (nI q)), (3, .int (nI b)), (4, .int most), (5, .int (nI p)), (6, .int (s_wt A p q)), (7, .int 1)]) dX7_believed_54 (by decide) rfl ?_
              refine ev_iload dX7_believed_56 rfl ?_
              refine ev_if_eq (tgt := 66) dX7_believed_58 (by decide) (fun c => absurd c (by decide)) (fun _ => ?_)
              refine ev_iload dX7_believed_61 rfl ?_
              refine ev_goto (tgt := 67) dX7_believed_63 (by decide) ?_
              refine ev_istore_n (lv' := [(0, .ref 65), (1, .int (nI T)), (2, .int (nI q)), (3, .int (nI p)), (4, .int most), (5, .int (nI p)), (6, .int (s_wt A p q)), (7, .int 1)]) dX7_believed_67 rfl (by decide) rfl ?_
              refine ev_iload dX7_believed_68 rfl ?_
              refine ev_if_eq (tgt := 78) dX7_believed_70 (by decide) (fun c => absurd c (by decide)) (fun _ => ?_)
              refine ev_iload dX7_believed_73 rfl ?_
              refine ev_goto (tgt := 80) dX7_believed_75 (by decide) ?_
              refine ev_istore (lv' := [(0, .ref 65), (1, .int (nI T)), (2, .int (nI q)), (3, .int (nI p)), (4, .int (s_wt A p q)), (5, .int (nI p)), (6, .int (s_wt A p q)), (7, .int 1)]) dX7_believed_80 (by decide) rfl ?_
              refine ev_iinc (lv' := [(0, .ref 65), (1, .int (nI T)), (2, .int (nI q)), (3, .int (nI p)), (4, .int (s_wt A p q)), (5, .int (nI (p + 1))), (6, .int (s_wt A p q)), (7, .int 1)]) (v := nI (p + 1)) dX7_believed_82 rfl (nI_1 _) (by decide) rfl ?_
              refine ev_goto (tgt := 8) dX7_believed_85 (by decide) ?_
              refine ev_keep (lv' := [(0, .ref 65), (1, .int (nI T)), (2, .int (nI q)), (3, .int (nI p)), (4, .int (s_wt A p q)), (5, .int (nI (p + 1)))]) [0, 1, 2, 3, 4, 5] rfl ?_
              exact ih (p + 1) (nI p) (s_wt A p q) σ6 (by omega) (by rw [s_blM hs ho hlt]; rfl) (by intro b2 h2; rw [s_blM hs ho hlt] at h2; cases h2; rfl) hI6 (fr_M.tr hF hF6) (by omega)
  refine ev_iconst (v := (-1)) dX7_believed_0 (by decide) ?_
  refine ev_istore_n (lv' := [(0, .ref 65), (1, .int (nI T)), (2, .int (nI q)), (3, .int (-1))]) dX7_believed_1 rfl (by decide) rfl ?_
  refine ev_iconst (v := 0) dX7_believed_2 (by decide) ?_
  refine ev_istore (lv' := [(0, .ref 65), (1, .int (nI T)), (2, .int (nI q)), (3, .int (-1)), (4, .int 0)]) dX7_believed_3 (by decide) rfl ?_
  refine ev_iconst (v := 0) dX7_believed_5 (by decide) ?_
  refine ev_istore (lv' := [(0, .ref 65), (1, .int (nI T)), (2, .int (nI q)), (3, .int (-1)), (4, .int 0), (5, .int 0)]) dX7_believed_6 (by decide) rfl ?_
  exact lp _ 0 (-1) 0 σ (Nat.zero_le _) rfl (fun b h => by cases h) hI fr_M.rf (Nat.lt_succ_self _)

