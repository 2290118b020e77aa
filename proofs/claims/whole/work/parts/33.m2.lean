/-! the reference, II -/
set_option maxHeartbeats 400000 in
set_option maxRecDepth 100000 in
theorem c_X7_force (G : am_G) (D : Nat) (A : am_S) (σ : am_M) (hA : wf_A A) (hI : iv_M A σ) (t : Int32) : am_Mt G (D + 1) mX7_force [.ref 65, .int t] σ 0 0 (am_qP (sp_force A t) σ) := by
  have b7 := wf_np7 hA
  have b8 := wf_nq8 hA
  have b6 := wf_nt6 hA
  have b61 := wf_nt1 hA
  have b160 := wf_tp160 hA
  have brl := wf_rlt hA
  refine am_of moX7_force (Nat.le_of_ble_eq_true rfl) ?_
  show am_Ev G mX7_force (am_R (D + 1) 0 0) 0 0 (am_qP (sp_force A t) σ) 0 [(0, .ref 65), (1, .int t)] [] σ 0 0
  refine ev_iload_n dX7_force_0 rfl rfl ?_
  refine ev_iconst (v := 0) dX7_force_1 (by decide) ?_
  refine ev_aload_n dX7_force_2 rfl rfl ?_
  refine ev_getI (v := nI (s_nt A)) dX7_force_3 fl_X7_97 (ly_k hI.ly 65 rfl) ((hI.rd 65 14 rfl).trans (wf_nt hA)) ?_
  refine ev_iconst (v := 1) dX7_force_6 (by decide) ?_
  refine ev_isub (v := (nI (s_nt A)) - 1) dX7_force_7 rfl ?_
  refine ev_callS (as := [.int t, .int 0, .int ((nI (s_nt A)) - 1)]) (st := []) dX7_force_8 mfX7_in lk_X7_90 (c_X7_in G D σ t 0 ((nI (s_nt A)) - 1)) rfl rfl (Nat.le_of_ble_eq_true rfl) (am_hR (by omega) (by decide)) ⟨Nat.le_refl _, Nat.le_refl _⟩ ?_
  rintro _ _ (⟨h1, rfl, rfl⟩ | ⟨h1, rfl, rfl⟩)
  · skip
    obtain ⟨j1, h1r, rfl⟩ := (am_rgp (by omega)).mp h1
    refine ev_if_ne (tgt := 17) dX7_force_11 (by decide) (fun _ => ?_) (fun c => absurd c (by decide))
    refine ev_aload_n dX7_force_17 rfl rfl ?_
    refine ev_getI (v := nI (s_rl A)) dX7_force_18 fl_X7_100 (ly_k hI.ly 65 rfl) ((hI.rd 65 15 rfl).trans (wf_rl hA)) ?_
    refine ev_istore_n (lv' := [(0, .ref 65), (1, .int (nI j1)), (2, .int (nI (s_rl A)))]) dX7_force_21 rfl (by decide) rfl ?_
    refine ev_aload_n dX7_force_22 rfl rfl ?_
    refine ev_iload_n dX7_force_23 rfl rfl ?_
    refine ev_putI dX7_force_24 fl_X7_100 rfl rfl (ly_k hI.ly 65 rfl) ?_
    refine ev_iload_n dX7_force_27 rfl rfl ?_
    refine ev_reti dX7_force_28 rfl (Nat.zero_le _) (Nat.zero_le _) ?_
    refine am_qPi ?_ (iv_M.up hI) (fr_M.wr (by decide) fr_M.rf)
    simp [sp_force, wf_np hA, wf_nq hA, wf_tp hA, wf_nt hA, wf_rl hA, am_inN h1r (by omega), sN_n (show j1 < 2 ^ 31 by omega)]
  · skip
    have h1r := fun q => h1 ((am_rgp (by omega)).mpr q)
    refine ev_if_ne (tgt := 17) dX7_force_11 (by decide) (fun c => absurd (by decide) c) (fun _ => ?_)
    refine ev_bipush (v := (-2)) dX7_force_14 (by decide) ?_
    refine ev_reti dX7_force_16 rfl (Nat.zero_le _) (Nat.zero_le _) ?_
    refine am_qPi ?_ hI fr_M.rf
    simp [sp_force, wf_np hA, wf_nq hA, wf_tp hA, wf_nt hA, wf_rl hA, am_inF (by omega) h1r]

set_option maxHeartbeats 400000 in
set_option maxRecDepth 100000 in
theorem c_X7_learn (G : am_G) (D : Nat) (A : am_S) (σ : am_M) (hA : wf_A A) (hI : iv_M A σ) (p i v : Int32) : am_Mt G (D + 2) mX7_learn [.ref 65, .int p, .int i, .int v] σ 0 0 (am_qP (sp_learn A p i v) σ) := by
  have b7 := wf_np7 hA
  have b8 := wf_nq8 hA
  have b6 := wf_nt6 hA
  have b61 := wf_nt1 hA
  have b160 := wf_tp160 hA
  have brl := wf_rlt hA
  refine am_of moX7_learn (Nat.le_of_ble_eq_true rfl) ?_
  show am_Ev G mX7_learn (am_R (D + 2) 0 0) 0 0 (am_qP (sp_learn A p i v) σ) 0 [(0, .ref 65), (1, .int p), (2, .int i), (3, .int v)] [] σ 0 0
  refine ev_aload_n dX7_learn_0 rfl rfl ?_
  refine ev_iload_n dX7_learn_1 rfl rfl ?_
  refine ev_callV (as := [.int p]) (st := []) dX7_learn_2 mfX7_isOne lk_X7_177 (ly_k hI.ly 65 rfl) (by decide) rfl (c_X7_isOne G D A σ hA hI p) rfl rfl (Nat.le_of_ble_eq_true rfl) (am_hR (by omega) (by decide)) ⟨Nat.le_refl _, Nat.le_refl _⟩ ?_
  rintro _ _ (⟨⟨j1, h1, rfl⟩, rfl, rfl⟩ | ⟨h1, rfl, rfl⟩)
  · skip
    refine ev_if_ne (tgt := 11) dX7_learn_5 (by decide) (fun _ => ?_) (fun c => absurd c (by decide))
    refine ev_iload_n dX7_learn_11 rfl rfl ?_
    refine ev_iconst (v := 0) dX7_learn_12 (by decide) ?_
    refine ev_iconst (v := 3) dX7_learn_13 (by decide) ?_
    refine ev_callS (as := [.int i, .int 0, .int 3]) (st := []) dX7_learn_14 mfX7_in lk_X7_90 (c_X7_in G (D + 1) σ i 0 3) rfl rfl (Nat.le_of_ble_eq_true rfl) (am_hR (by omega) (by decide)) ⟨Nat.le_refl _, Nat.le_refl _⟩ ?_
    rintro _ _ (⟨h2, rfl, rfl⟩ | ⟨h2, rfl, rfl⟩)
    · skip
      obtain ⟨j2, h2r, rfl⟩ := (am_rgl (n := 4) (by decide)).mp h2
      refine ev_if_eq (tgt := 30) dX7_learn_17 (by decide) (fun c => absurd c (by decide)) (fun _ => ?_)
      refine ev_iload_n dX7_learn_20 rfl rfl ?_
      refine ev_iconst (v := 0) dX7_learn_21 (by decide) ?_
      refine ev_bipush (v := 9) dX7_learn_22 (by decide) ?_
      refine ev_callS (as := [.int v, .int 0, .int 9]) (st := []) dX7_learn_24 mfX7_in lk_X7_90 (c_X7_in G (D + 1) σ v 0 9) rfl rfl (Nat.le_of_ble_eq_true rfl) (am_hR (by omega) (by decide)) ⟨Nat.le_refl _, Nat.le_refl _⟩ ?_
      rintro _ _ (⟨h3, rfl, rfl⟩ | ⟨h3, rfl, rfl⟩)
      · skip
        obtain ⟨j3, h3r, rfl⟩ := (am_rgl (n := 10) (by decide)).mp h3
        refine ev_if_ne (tgt := 33) dX7_learn_27 (by decide) (fun _ => ?_) (fun c => absurd c (by decide))
        refine ev_aload_n dX7_learn_33 rfl rfl ?_
        refine ev_getR (b := 70) dX7_learn_34 fl_X7_22 (ly_k hI.ly 65 rfl) (ly_r hI.ly 33 rfl) ?_
        refine ev_iconst (v := 4) dX7_learn_37 (by decide) ?_
        refine ev_iload_n dX7_learn_38 rfl rfl ?_
        refine ev_imul (v := nI (4 * j1)) dX7_learn_39 (pk_mul 4 j1) ?_
        refine ev_iload_n dX7_learn_40 rfl rfl ?_
        refine ev_iadd (v := nI (4 * j1 + j2)) dX7_learn_41 (nI_add (4 * j1) j2) ?_
        refine ev_iald (v := A 70 (4 * j1 + j2)) dX7_learn_42 (ly_k hI.ly 70 rfl) (am_ixn (by omega) (by decide)) (hI.rd 70 (4 * j1 + j2) rfl) ?_
        refine ev_istore (lv' := [(0, .ref 65), (1, .int (nI j1)), (2, .int (nI j2)), (3, .int (nI j3)), (4, .int (A 70 (4 * j1 + j2)))]) dX7_learn_43 (by decide) rfl ?_
        refine ev_aload_n dX7_learn_45 rfl rfl ?_
        refine ev_getR (b := 70) dX7_learn_46 fl_X7_22 (ly_k hI.ly 65 rfl) (ly_r hI.ly 33 rfl) ?_
        refine ev_iconst (v := 4) dX7_learn_49 (by decide) ?_
        refine ev_iload_n dX7_learn_50 rfl rfl ?_
        refine ev_imul (v := nI (4 * j1)) dX7_learn_51 (pk_mul 4 j1) ?_
        refine ev_iload_n dX7_learn_52 rfl rfl ?_
        refine ev_iadd (v := nI (4 * j1 + j2)) dX7_learn_53 (nI_add (4 * j1) j2) ?_
        refine ev_iload_n dX7_learn_54 rfl rfl ?_
        refine ev_iast dX7_learn_55 (ly_k hI.ly 70 rfl) (am_ixn (by omega) (by decide)) ?_
        refine ev_iload dX7_learn_56 rfl ?_
        refine ev_reti dX7_learn_58 rfl (Nat.zero_le _) (Nat.zero_le _) ?_
        refine am_qPi ?_ (iv_M.up hI) (fr_M.wr (by decide) fr_M.rf)
        simp [sp_learn, wf_np hA, wf_nq hA, wf_tp hA, wf_nt hA, wf_rl hA, am_inN h1 (by omega), sN_n (show j1 < 2 ^ 31 by omega), am_inN h2r (by omega), sN_n (show j2 < 2 ^ 31 by omega), am_inN h3r (by omega), sN_n (show j3 < 2 ^ 31 by omega)]
      · skip
        have h3r := fun q => h3 ((am_rgl (n := 10) (by decide)).mpr q)
        refine ev_if_ne (tgt := 33) dX7_learn_27 (by decide) (fun c => absurd (by decide) c) (fun _ => ?_)
        refine ev_bipush (v := (-7)) dX7_learn_30 (by decide) ?_
        refine ev_reti dX7_learn_32 rfl (Nat.zero_le _) (Nat.zero_le _) ?_
        refine am_qPi ?_ hI fr_M.rf
        simp [sp_learn, wf_np hA, wf_nq hA, wf_tp hA, wf_nt hA, wf_rl hA, am_inN h1 (by omega), sN_n (show j1 < 2 ^ 31 by omega), am_inN h2r (by omega), sN_n (show j2 < 2 ^ 31 by omega), am_inF (by omega) h3r]
    · skip
      have h2r := fun q => h2 ((am_rgl (n := 4) (by decide)).mpr q)
      refine ev_if_eq (tgt := 30) dX7_learn_17 (by decide) (fun _ => ?_) (fun c => absurd (by decide) c)
      refine ev_bipush (v := (-7)) dX7_learn_30 (by decide) ?_
      refine ev_reti dX7_learn_32 rfl (Nat.zero_le _) (Nat.zero_le _) ?_
      refine am_qPi ?_ hI fr_M.rf
      simp [sp_learn, wf_np hA, wf_nq hA, wf_tp hA, wf_nt hA, wf_rl hA, am_inN h1 (by omega), sN_n (show j1 < 2 ^ 31 by omega), am_inF (by omega) h2r]
  · skip
    refine ev_if_ne (tgt := 11) dX7_learn_5 (by decide) (fun c => absurd (by decide) c) (fun _ => ?_)
    refine ev_bipush (v := (-5)) dX7_learn_8 (by decide) ?_
    refine ev_reti dX7_learn_10 rfl (Nat.zero_le _) (Nat.zero_le _) ?_
    refine am_qPi ?_ hI fr_M.rf
    simp [sp_learn, wf_np hA, wf_nq hA, wf_tp hA, wf_nt hA, wf_rl hA, am_inF (by omega) h1]

set_option maxHeartbeats 400000 in
set_option maxRecDepth 100000 in
theorem c_X7_sit (G : am_G) (D : Nat) (A : am_S) (σ : am_M) (hA : wf_A A) (hI : iv_M A σ) (p t : Int32) : am_Mt G (D + 2) mX7_sit [.ref 65, .int p, .int t] σ 0 0 (am_qP (sp_sit A p t) σ) := by
  have b7 := wf_np7 hA
  have b8 := wf_nq8 hA
  have b6 := wf_nt6 hA
  have b61 := wf_nt1 hA
  have b160 := wf_tp160 hA
  have brl := wf_rlt hA
  refine am_of moX7_sit (Nat.le_of_ble_eq_true rfl) ?_
  show am_Ev G mX7_sit (am_R (D + 2) 0 0) 0 0 (am_qP (sp_sit A p t) σ) 0 [(0, .ref 65), (1, .int p), (2, .int t)] [] σ 0 0
  refine ev_aload_n dX7_sit_0 rfl rfl ?_
  refine ev_iload_n dX7_sit_1 rfl rfl ?_
  refine ev_callV (as := [.int p]) (st := []) dX7_sit_2 mfX7_isOne lk_X7_177 (ly_k hI.ly 65 rfl) (by decide) rfl (c_X7_isOne G D A σ hA hI p) rfl rfl (Nat.le_of_ble_eq_true rfl) (am_hR (by omega) (by decide)) ⟨Nat.le_refl _, Nat.le_refl _⟩ ?_
  rintro _ _ (⟨⟨j1, h1, rfl⟩, rfl, rfl⟩ | ⟨h1, rfl, rfl⟩)
  · skip
    refine ev_if_ne (tgt := 11) dX7_sit_5 (by decide) (fun _ => ?_) (fun c => absurd c (by decide))
    refine ev_iload_n dX7_sit_11 rfl rfl ?_
    refine ev_iconst (v := (-1)) dX7_sit_12 (by decide) ?_
    refine ev_iconst (v := 2) dX7_sit_13 (by decide) ?_
    refine ev_callS (as := [.int t, .int (-1), .int 2]) (st := []) dX7_sit_14 mfX7_in lk_X7_90 (c_X7_in G (D + 1) σ t (-1) 2) rfl rfl (Nat.le_of_ble_eq_true rfl) (am_hR (by omega) (by decide)) ⟨Nat.le_refl _, Nat.le_refl _⟩ ?_
    rintro _ _ (⟨h2, rfl, rfl⟩ | ⟨h2, rfl, rfl⟩)
    · skip
      have h2s := am_sbT h2
      refine ev_if_ne (tgt := 23) dX7_sit_17 (by decide) (fun _ => ?_) (fun c => absurd c (by decide))
      refine ev_aload_n dX7_sit_23 rfl rfl ?_
      refine ev_getR (b := 69) dX7_sit_24 fl_X7_19 (ly_k hI.ly 65 rfl) (ly_r hI.ly 32 rfl) ?_
      refine ev_iload_n dX7_sit_27 rfl rfl ?_
      refine ev_iald (v := A 69 j1) dX7_sit_28 (ly_k hI.ly 69 rfl) (am_ixn (by omega) (by decide)) (hI.rd 69 j1 rfl) ?_
      refine ev_istore_n (lv' := [(0, .ref 65), (1, .int (nI j1)), (2, .int t), (3, .int (A 69 j1))]) dX7_sit_29 rfl (by decide) rfl ?_
      refine ev_aload_n dX7_sit_30 rfl rfl ?_
      refine ev_getR (b := 69) dX7_sit_31 fl_X7_19 (ly_k hI.ly 65 rfl) (ly_r hI.ly 32 rfl) ?_
      refine ev_iload_n dX7_sit_34 rfl rfl ?_
      refine ev_iload_n dX7_sit_35 rfl rfl ?_
      refine ev_iast dX7_sit_36 (ly_k hI.ly 69 rfl) (am_ixn (by omega) (by decide)) ?_
      refine ev_iload_n dX7_sit_37 rfl rfl ?_
      refine ev_reti dX7_sit_38 rfl (Nat.zero_le _) (Nat.zero_le _) ?_
      refine am_qPi ?_ (iv_M.up hI) (fr_M.wr (by decide) fr_M.rf)
      simp [sp_sit, wf_np hA, wf_nq hA, wf_tp hA, wf_nt hA, wf_rl hA, am_inN h1 (by omega), sN_n (show j1 < 2 ^ 31 by omega), h2s]
    · skip
      have h2s := am_sbF h2
      refine ev_if_ne (tgt := 23) dX7_sit_17 (by decide) (fun c => absurd (by decide) c) (fun _ => ?_)
      refine ev_bipush (v := (-7)) dX7_sit_20 (by decide) ?_
      refine ev_reti dX7_sit_22 rfl (Nat.zero_le _) (Nat.zero_le _) ?_
      refine am_qPi ?_ hI fr_M.rf
      simp [sp_sit, wf_np hA, wf_nq hA, wf_tp hA, wf_nt hA, wf_rl hA, am_inN h1 (by omega), sN_n (show j1 < 2 ^ 31 by omega), h2s]
  · skip
    refine ev_if_ne (tgt := 11) dX7_sit_5 (by decide) (fun c => absurd (by decide) c) (fun _ => ?_)
    refine ev_bipush (v := (-5)) dX7_sit_8 (by decide) ?_
    refine ev_reti dX7_sit_10 rfl (Nat.zero_le _) (Nat.zero_le _) ?_
    refine am_qPi ?_ hI fr_M.rf
    simp [sp_sit, wf_np hA, wf_nq hA, wf_tp hA, wf_nt hA, wf_rl hA, am_inF (by omega) h1]

set_option maxHeartbeats 400000 in
set_option maxRecDepth 100000 in
theorem c_X7_question (G : am_G) (D : Nat) (A : am_S) (σ : am_M) (hA : wf_A A) (hI : iv_M A σ) (i d : Int32) : am_Mt G (D + 1) mX7_question [.ref 65, .int i, .int d] σ 0 0 (am_qP (sp_question A i d) σ) := by
  have b7 := wf_np7 hA
  have b8 := wf_nq8 hA
  have b6 := wf_nt6 hA
  have b61 := wf_nt1 hA
  have b160 := wf_tp160 hA
  have brl := wf_rlt hA
  refine am_of moX7_question (Nat.le_of_ble_eq_true rfl) ?_
  show am_Ev G mX7_question (am_R (D + 1) 0 0) 0 0 (am_qP (sp_question A i d) σ) 0 [(0, .ref 65), (1, .int i), (2, .int d)] [] σ 0 0
  refine ev_iload_n dX7_question_0 rfl rfl ?_
  refine ev_iconst (v := 0) dX7_question_1 (by decide) ?_
  refine ev_iconst (v := 3) dX7_question_2 (by decide) ?_
  refine ev_callS (as := [.int i, .int 0, .int 3]) (st := []) dX7_question_3 mfX7_in lk_X7_90 (c_X7_in G D σ i 0 3) rfl rfl (Nat.le_of_ble_eq_true rfl) (am_hR (by omega) (by decide)) ⟨Nat.le_refl _, Nat.le_refl _⟩ ?_
  rintro _ _ (⟨h1, rfl, rfl⟩ | ⟨h1, rfl, rfl⟩)
  · skip
    obtain ⟨j1, h1r, rfl⟩ := (am_rgl (n := 4) (by decide)).mp h1
    refine ev_if_eq (tgt := 19) dX7_question_6 (by decide) (fun c => absurd c (by decide)) (fun _ => ?_)
    refine ev_iload_n dX7_question_9 rfl rfl ?_
    refine ev_iconst (v := 0) dX7_question_10 (by decide) ?_
    refine ev_bipush (v := 9) dX7_question_11 (by decide) ?_
    refine ev_callS (as := [.int d, .int 0, .int 9]) (st := []) dX7_question_13 mfX7_in lk_X7_90 (c_X7_in G D σ d 0 9) rfl rfl (Nat.le_of_ble_eq_true rfl) (am_hR (by omega) (by decide)) ⟨Nat.le_refl _, Nat.le_refl _⟩ ?_
    rintro _ _ (⟨h2, rfl, rfl⟩ | ⟨h2, rfl, rfl⟩)
    · skip
      obtain ⟨j2, h2r, rfl⟩ := (am_rgl (n := 10) (by decide)).mp h2
      refine ev_if_ne (tgt := 22) dX7_question_16 (by decide) (fun _ => ?_) (fun c => absurd c (by decide))
      refine ev_aload_n dX7_question_22 rfl rfl ?_
      refine ev_getI (v := nI (s_nq A)) dX7_question_23 fl_X7_94 (ly_k hI.ly 65 rfl) ((hI.rd 65 6 rfl).trans (wf_nq hA)) ?_
      refine ev_bipush (v := 8) dX7_question_26 (by decide) ?_
      refine ev_icmp_ne (tgt := 34) dX7_question_28 (by decide) (fun c3 => ?_) (fun c3 => ?_)
      · skip
        have c3n : ¬ (s_nq A) = 8 := fun zz => c3 ((nI_eq (a := (s_nq A)) (b := 8) (by omega) (by omega)).mpr zz)
        refine ev_aload_n dX7_question_34 rfl rfl ?_
        refine ev_getR (b := 71) dX7_question_35 fl_X7_25 (ly_k hI.ly 65 rfl) (ly_r hI.ly 34 rfl) ?_
        refine ev_aload_n dX7_question_38 rfl rfl ?_
        refine ev_getI (v := nI (s_nq A)) dX7_question_39 fl_X7_94 (ly_k hI.ly 65 rfl) ((hI.rd 65 6 rfl).trans (wf_nq hA)) ?_
        refine ev_iload_n dX7_question_42 rfl rfl ?_
        refine ev_iast dX7_question_43 (ly_k hI.ly 71 rfl) (am_ixn (by omega) (by decide)) ?_
        refine ev_aload_n dX7_question_44 rfl rfl ?_
        refine ev_getR (b := 72) dX7_question_45 fl_X7_28 (ly_k (iv_M.up hI).ly 65 rfl) (ly_r (iv_M.up hI).ly 35 rfl) ?_
        refine ev_aload_n dX7_question_48 rfl rfl ?_
        refine ev_getI (v := nI (s_nq A)) dX7_question_49 fl_X7_94 (ly_k (iv_M.up hI).ly 65 rfl) (am_ru (by omega) ((hI.rd 65 6 rfl).trans (wf_nq hA))) ?_
        refine ev_iload_n dX7_question_52 rfl rfl ?_
        refine ev_iast dX7_question_53 (ly_k (iv_M.up hI).ly 72 rfl) (am_ixn (by omega) (by decide)) ?_
        refine ev_aload_n dX7_question_54 rfl rfl ?_
        refine ev_dup dX7_question_55 rfl ?_
        refine ev_getI (v := nI (s_nq A)) dX7_question_56 fl_X7_94 (ly_k (iv_M.up (iv_M.up hI)).ly 65 rfl) (am_ru (by omega) (am_ru (by omega) ((hI.rd 65 6 rfl).trans (wf_nq hA)))) ?_
        refine ev_iconst (v := 1) dX7_question_59 (by decide) ?_
        refine ev_iadd (v := nI (s_nq A + 1)) dX7_question_60 (nI_1 _) ?_
        refine ev_putI dX7_question_61 fl_X7_94 rfl rfl (ly_k (iv_M.up (iv_M.up hI)).ly 65 rfl) ?_
        refine ev_aload_n dX7_question_64 rfl rfl ?_
        refine ev_getI (v := nI (s_nq A + 1)) dX7_question_65 fl_X7_94 (ly_k (iv_M.up (iv_M.up (iv_M.up hI))).ly 65 rfl) am_rs ?_
        refine ev_iconst (v := 1) dX7_question_68 (by decide) ?_
        refine ev_isub (v := nI (s_nq A)) dX7_question_69 (nI_pred _) ?_
        refine ev_reti dX7_question_70 rfl (Nat.zero_le _) (Nat.zero_le _) ?_
        refine am_qPi ?_ (iv_M.up (iv_M.up (iv_M.up hI))) (fr_M.wr (by decide) (fr_M.wr (by decide) (fr_M.wr (by decide) fr_M.rf)))
        simp [sp_question, wf_np hA, wf_nq hA, wf_tp hA, wf_nt hA, wf_rl hA, am_inN h1r (by omega), sN_n (show j1 < 2 ^ 31 by omega), am_inN h2r (by omega), sN_n (show j2 < 2 ^ 31 by omega), c3, c3n]
      · skip
        have c3n : (s_nq A) = 8 := (nI_eq (a := (s_nq A)) (b := 8) (by omega) (by omega)).mp c3
        refine ev_bipush (v := (-4)) dX7_question_31 (by decide) ?_
        refine ev_reti dX7_question_33 rfl (Nat.zero_le _) (Nat.zero_le _) ?_
        refine am_qPi ?_ hI fr_M.rf
        simp [sp_question, wf_np hA, wf_nq hA, wf_tp hA, wf_nt hA, wf_rl hA, am_inN h1r (by omega), sN_n (show j1 < 2 ^ 31 by omega), am_inN h2r (by omega), sN_n (show j2 < 2 ^ 31 by omega), c3, c3n]
    · skip
      have h2r := fun q => h2 ((am_rgl (n := 10) (by decide)).mpr q)
      refine ev_if_ne (tgt := 22) dX7_question_16 (by decide) (fun c => absurd (by decide) c) (fun _ => ?_)
      refine ev_bipush (v := (-2)) dX7_question_19 (by decide) ?_
      refine ev_reti dX7_question_21 rfl (Nat.zero_le _) (Nat.zero_le _) ?_
      refine am_qPi ?_ hI fr_M.rf
      simp [sp_question, wf_np hA, wf_nq hA, wf_tp hA, wf_nt hA, wf_rl hA, am_inN h1r (by omega), sN_n (show j1 < 2 ^ 31 by omega), am_inF (by omega) h2r]
  · skip
    have h1r := fun q => h1 ((am_rgl (n := 4) (by decide)).mpr q)
    refine ev_if_eq (tgt := 19) dX7_question_6 (by decide) (fun _ => ?_) (fun c => absurd (by decide) c)
    refine ev_bipush (v := (-2)) dX7_question_19 (by decide) ?_
    refine ev_reti dX7_question_21 rfl (Nat.zero_le _) (Nat.zero_le _) ?_
    refine am_qPi ?_ hI fr_M.rf
    simp [sp_question, wf_np hA, wf_nq hA, wf_tp hA, wf_nt hA, wf_rl hA, am_inF (by omega) h1r]

set_option maxHeartbeats 400000 in
set_option maxRecDepth 100000 in
theorem c_X7_lay (G : am_G) (D : Nat) (A : am_S) (σ : am_M) (hA : wf_A A) (hI : iv_M A σ) (t q : Int32) : am_Mt G (D + 2) mX7_lay [.ref 65, .int t, .int q] σ 0 0 (am_qP (sp_lay A t q) σ) := by
  have b7 := wf_np7 hA
  have b8 := wf_nq8 hA
  have b6 := wf_nt6 hA
  have b61 := wf_nt1 hA
  have b160 := wf_tp160 hA
  have brl := wf_rlt hA
  refine am_of moX7_lay (Nat.le_of_ble_eq_true rfl) ?_
  show am_Ev G mX7_lay (am_R (D + 2) 0 0) 0 0 (am_qP (sp_lay A t q) σ) 0 [(0, .ref 65), (1, .int t), (2, .int q)] [] σ 0 0
  refine ev_iload_n dX7_lay_0 rfl rfl ?_
  refine ev_callS (as := [.int t]) (st := []) dX7_lay_1 mfX7_isTable lk_X7_183 (c_X7_isTable G D σ t) rfl rfl (Nat.le_of_ble_eq_true rfl) (am_hR (by omega) (by decide)) ⟨Nat.le_refl _, Nat.le_refl _⟩ ?_
  rintro _ _ (⟨⟨j1, h1, rfl⟩, rfl, rfl⟩ | ⟨h1, rfl, rfl⟩)
  · skip
    refine ev_if_ne (tgt := 10) dX7_lay_4 (by decide) (fun _ => ?_) (fun c => absurd c (by decide))
    refine ev_iload_n dX7_lay_10 rfl rfl ?_
    refine ev_iconst (v := (-1)) dX7_lay_11 (by decide) ?_
    refine ev_icmp_eq (tgt := 26) dX7_lay_12 (by decide) (fun c2 => ?_) (fun c2 => ?_)
    · skip
      refine ev_aload_n dX7_lay_26 rfl rfl ?_
      refine ev_getR (b := 73) dX7_lay_27 fl_X7_31 (ly_k hI.ly 65 rfl) (ly_r hI.ly 36 rfl) ?_
      refine ev_iload_n dX7_lay_30 rfl rfl ?_
      refine ev_iald (v := A 73 j1) dX7_lay_31 (ly_k hI.ly 73 rfl) (am_ixn (by omega) (by decide)) (hI.rd 73 j1 rfl) ?_
      refine ev_istore_n (lv' := [(0, .ref 65), (1, .int (nI j1)), (2, .int q), (3, .int (A 73 j1))]) dX7_lay_32 rfl (by decide) rfl ?_
      refine ev_aload_n dX7_lay_33 rfl rfl ?_
      refine ev_getR (b := 73) dX7_lay_34 fl_X7_31 (ly_k hI.ly 65 rfl) (ly_r hI.ly 36 rfl) ?_
      refine ev_iload_n dX7_lay_37 rfl rfl ?_
      refine ev_iload_n dX7_lay_38 rfl rfl ?_
      refine ev_iast dX7_lay_39 (ly_k hI.ly 73 rfl) (am_ixn (by omega) (by decide)) ?_
      refine ev_iload_n dX7_lay_40 rfl rfl ?_
      refine ev_reti dX7_lay_41 rfl (Nat.zero_le _) (Nat.zero_le _) ?_
      refine am_qPi ?_ (iv_M.up hI) (fr_M.wr (by decide) fr_M.rf)
      simp [sp_lay, wf_np hA, wf_nq hA, wf_tp hA, wf_nt hA, wf_rl hA, am_inN h1 (by omega), sN_n (show j1 < 2 ^ 31 by omega), c2]
    · skip
      refine ev_aload_n dX7_lay_15 rfl rfl ?_
      refine ev_iload_n dX7_lay_16 rfl rfl ?_
      refine ev_callV (as := [.int q]) (st := []) dX7_lay_17 mfX7_isQuestion lk_X7_180 (ly_k hI.ly 65 rfl) (by decide) rfl (c_X7_isQuestion G D A σ hA hI q) rfl rfl (Nat.le_of_ble_eq_true rfl) (am_hR (by omega) (by decide)) ⟨Nat.le_refl _, Nat.le_refl _⟩ ?_
      rintro _ _ (⟨⟨j3, h3, rfl⟩, rfl, rfl⟩ | ⟨h3, rfl, rfl⟩)
      · skip
        refine ev_if_ne (tgt := 26) dX7_lay_20 (by decide) (fun _ => ?_) (fun c => absurd c (by decide))
        refine ev_aload_n dX7_lay_26 rfl rfl ?_
        refine ev_getR (b := 73) dX7_lay_27 fl_X7_31 (ly_k hI.ly 65 rfl) (ly_r hI.ly 36 rfl) ?_
        refine ev_iload_n dX7_lay_30 rfl rfl ?_
        refine ev_iald (v := A 73 j1) dX7_lay_31 (ly_k hI.ly 73 rfl) (am_ixn (by omega) (by decide)) (hI.rd 73 j1 rfl) ?_
        refine ev_istore_n (lv' := [(0, .ref 65), (1, .int (nI j1)), (2, .int (nI j3)), (3, .int (A 73 j1))]) dX7_lay_32 rfl (by decide) rfl ?_
        refine ev_aload_n dX7_lay_33 rfl rfl ?_
        refine ev_getR (b := 73) dX7_lay_34 fl_X7_31 (ly_k hI.ly 65 rfl) (ly_r hI.ly 36 rfl) ?_
        refine ev_iload_n dX7_lay_37 rfl rfl ?_
        refine ev_iload_n dX7_lay_38 rfl rfl ?_
        refine ev_iast dX7_lay_39 (ly_k hI.ly 73 rfl) (am_ixn (by omega) (by decide)) ?_
        refine ev_iload_n dX7_lay_40 rfl rfl ?_
        refine ev_reti dX7_lay_41 rfl (Nat.zero_le _) (Nat.zero_le _) ?_
        refine am_qPi ?_ (iv_M.up hI) (fr_M.wr (by decide) fr_M.rf)
        simp [sp_lay, wf_np hA, wf_nq hA, wf_tp hA, wf_nt hA, wf_rl hA, am_inN h1 (by omega), sN_n (show j1 < 2 ^ 31 by omega), c2, am_inN h3 (by omega), sN_n (show j3 < 2 ^ 31 by omega)]
      · skip
        refine ev_if_ne (tgt := 26) dX7_lay_20 (by decide) (fun c => absurd (by decide) c) (fun _ => ?_)
        refine ev_bipush (v := (-7)) dX7_lay_23 (by decide) ?_
        refine ev_reti dX7_lay_25 rfl (Nat.zero_le _) (Nat.zero_le _) ?_
        refine am_qPi ?_ hI fr_M.rf
        simp [sp_lay, wf_np hA, wf_nq hA, wf_tp hA, wf_nt hA, wf_rl hA, am_inN h1 (by omega), sN_n (show j1 < 2 ^ 31 by omega), c2, am_inF (by omega) h3]
  · skip
    refine ev_if_ne (tgt := 10) dX7_lay_4 (by decide) (fun c => absurd (by decide) c) (fun _ => ?_)
    refine ev_bipush (v := (-5)) dX7_lay_7 (by decide) ?_
    refine ev_reti dX7_lay_9 rfl (Nat.zero_le _) (Nat.zero_le _) ?_
    refine am_qPi ?_ hI fr_M.rf
    simp [sp_lay, wf_np hA, wf_nq hA, wf_tp hA, wf_nt hA, wf_rl hA, am_inF (by omega) h1]

set_option maxHeartbeats 400000 in
set_option maxRecDepth 100000 in
theorem c_X7_laid (G : am_G) (D : Nat) (A : am_S) (σ : am_M) (hA : wf_A A) (hI : iv_M A σ) (t : Int32) : am_Mt G (D + 2) mX7_laid [.ref 65, .int t] σ 0 0 (am_q (.int (sp_laid A t)) σ) := by
  have b7 := wf_np7 hA
  have b8 := wf_nq8 hA
  have b6 := wf_nt6 hA
  have b61 := wf_nt1 hA
  have b160 := wf_tp160 hA
  have brl := wf_rlt hA
  refine am_of moX7_laid (Nat.le_of_ble_eq_true rfl) ?_
  show am_Ev G mX7_laid (am_R (D + 2) 0 0) 0 0 (am_q (.int (sp_laid A t)) σ) 0 [(0, .ref 65), (1, .int t)] [] σ 0 0
  refine ev_iload_n dX7_laid_0 rfl rfl ?_
  refine ev_callS (as := [.int t]) (st := []) dX7_laid_1 mfX7_isTable lk_X7_183 (c_X7_isTable G D σ t) rfl rfl (Nat.le_of_ble_eq_true rfl) (am_hR (by omega) (by decide)) ⟨Nat.le_refl _, Nat.le_refl _⟩ ?_
  rintro _ _ (⟨⟨j1, h1, rfl⟩, rfl, rfl⟩ | ⟨h1, rfl, rfl⟩)
  · skip
    refine ev_if_eq (tgt := 16) dX7_laid_4 (by decide) (fun c => absurd c (by decide)) (fun _ => ?_)
    refine ev_aload_n dX7_laid_7 rfl rfl ?_
    refine ev_getR (b := 73) dX7_laid_8 fl_X7_31 (ly_k hI.ly 65 rfl) (ly_r hI.ly 36 rfl) ?_
    refine ev_iload_n dX7_laid_11 rfl rfl ?_
    refine ev_iald (v := A 73 j1) dX7_laid_12 (ly_k hI.ly 73 rfl) (am_ixn (by omega) (by decide)) (hI.rd 73 j1 rfl) ?_
    refine ev_goto (tgt := 18) dX7_laid_13 (by decide) ?_
    refine ev_reti dX7_laid_18 rfl (Nat.zero_le _) (Nat.zero_le _) ?_
    refine ⟨?_, rfl⟩
    simp [sp_laid, wf_np hA, wf_nq hA, wf_tp hA, wf_nt hA, wf_rl hA, am_inN h1 (by omega), sN_n (show j1 < 2 ^ 31 by omega)]
  · skip
    refine ev_if_eq (tgt := 16) dX7_laid_4 (by decide) (fun _ => ?_) (fun c => absurd (by decide) c)
    refine ev_bipush (v := (-5)) dX7_laid_16 (by decide) ?_
    refine ev_reti dX7_laid_18 rfl (Nat.zero_le _) (Nat.zero_le _) ?_
    refine ⟨?_, rfl⟩
    simp [sp_laid, wf_np hA, wf_nq hA, wf_tp hA, wf_nt hA, wf_rl hA, am_inF (by omega) h1]

set_option maxHeartbeats 400000 in
set_option maxRecDepth 100000 in
theorem c_X7_askedOf (G : am_G) (D : Nat) (A : am_S) (σ : am_M) (hA : wf_A A) (hI : iv_M A σ) (q v : Int32) : am_Mt G (D + 2) mX7_askedOf [.ref 65, .int q, .int v] σ 0 0 (am_q (.int (sp_askedOf A q v)) σ) := by
  have b7 := wf_np7 hA
  have b8 := wf_nq8 hA
  have b6 := wf_nt6 hA
  have b61 := wf_nt1 hA
  have b160 := wf_tp160 hA
  have brl := wf_rlt hA
  refine am_of moX7_askedOf (Nat.le_of_ble_eq_true rfl) ?_
  show am_Ev G mX7_askedOf (am_R (D + 2) 0 0) 0 0 (am_q (.int (sp_askedOf A q v)) σ) 0 [(0, .ref 65), (1, .int q), (2, .int v)] [] σ 0 0
  refine ev_aload_n dX7_askedOf_0 rfl rfl ?_
  refine ev_iload_n dX7_askedOf_1 rfl rfl ?_
  refine ev_callV (as := [.int q]) (st := []) dX7_askedOf_2 mfX7_isQuestion lk_X7_180 (ly_k hI.ly 65 rfl) (by decide) rfl (c_X7_isQuestion G D A σ hA hI q) rfl rfl (Nat.le_of_ble_eq_true rfl) (am_hR (by omega) (by decide)) ⟨Nat.le_refl _, Nat.le_refl _⟩ ?_
  rintro _ _ (⟨⟨j1, h1, rfl⟩, rfl, rfl⟩ | ⟨h1, rfl, rfl⟩)
  · skip
    refine ev_if_ne (tgt := 11) dX7_askedOf_5 (by decide) (fun _ => ?_) (fun c => absurd c (by decide))
    refine ev_iload_n dX7_askedOf_11 rfl rfl ?_
    refine ev_if_ne (tgt := 24) dX7_askedOf_12 (by decide) (fun c2 => ?_) (fun c2 => ?_)
    · skip
      refine ev_iload_n dX7_askedOf_24 rfl rfl ?_
      refine ev_iconst (v := 1) dX7_askedOf_25 (by decide) ?_
      refine ev_icmp_ne (tgt := 38) dX7_askedOf_26 (by decide) (fun c3 => ?_) (fun c3 => ?_)
      · skip
        refine ev_bipush (v := (-7)) dX7_askedOf_38 (by decide) ?_
        refine ev_reti dX7_askedOf_40 rfl (Nat.zero_le _) (Nat.zero_le _) ?_
        refine ⟨?_, rfl⟩
        simp [sp_askedOf, wf_np hA, wf_nq hA, wf_tp hA, wf_nt hA, wf_rl hA, am_inN h1 (by omega), sN_n (show j1 < 2 ^ 31 by omega), c2, c3]
      · skip
        refine ev_aload_n dX7_askedOf_29 rfl rfl ?_
        refine ev_getR (b := 72) dX7_askedOf_30 fl_X7_28 (ly_k hI.ly 65 rfl) (ly_r hI.ly 35 rfl) ?_
        refine ev_iload_n dX7_askedOf_33 rfl rfl ?_
        refine ev_iald (v := A 72 j1) dX7_askedOf_34 (ly_k hI.ly 72 rfl) (am_ixn (by omega) (by decide)) (hI.rd 72 j1 rfl) ?_
        refine ev_goto (tgt := 40) dX7_askedOf_35 (by decide) ?_
        refine ev_reti dX7_askedOf_40 rfl (Nat.zero_le _) (Nat.zero_le _) ?_
        refine ⟨?_, rfl⟩
        simp [sp_askedOf, wf_np hA, wf_nq hA, wf_tp hA, wf_nt hA, wf_rl hA, am_inN h1 (by omega), sN_n (show j1 < 2 ^ 31 by omega), c2, c3]
    · skip
      refine ev_aload_n dX7_askedOf_15 rfl rfl ?_
      refine ev_getR (b := 71) dX7_askedOf_16 fl_X7_25 (ly_k hI.ly 65 rfl) (ly_r hI.ly 34 rfl) ?_
      refine ev_iload_n dX7_askedOf_19 rfl rfl ?_
      refine ev_iald (v := A 71 j1) dX7_askedOf_20 (ly_k hI.ly 71 rfl) (am_ixn (by omega) (by decide)) (hI.rd 71 j1 rfl) ?_
      refine ev_goto (tgt := 40) dX7_askedOf_21 (by decide) ?_
      refine ev_reti dX7_askedOf_40 rfl (Nat.zero_le _) (Nat.zero_le _) ?_
      refine ⟨?_, rfl⟩
      simp [sp_askedOf, wf_np hA, wf_nq hA, wf_tp hA, wf_nt hA, wf_rl hA, am_inN h1 (by omega), sN_n (show j1 < 2 ^ 31 by omega), c2]
  · skip
    refine ev_if_ne (tgt := 11) dX7_askedOf_5 (by decide) (fun c => absurd (by decide) c) (fun _ => ?_)
    refine ev_bipush (v := (-5)) dX7_askedOf_8 (by decide) ?_
    refine ev_reti dX7_askedOf_10 rfl (Nat.zero_le _) (Nat.zero_le _) ?_
    refine ⟨?_, rfl⟩
    simp [sp_askedOf, wf_np hA, wf_nq hA, wf_tp hA, wf_nt hA, wf_rl hA, am_inF (by omega) h1]

set_option maxHeartbeats 400000 in
set_option maxRecDepth 100000 in
theorem c_X7_told (G : am_G) (D : Nat) (A : am_S) (σ : am_M) (hA : wf_A A) (hI : iv_M A σ) (p v : Int32) : am_Mt G (D + 2) mX7_told [.ref 65, .int p, .int v] σ 0 0 (am_q (.int (sp_told A p v)) σ) := by
  have b7 := wf_np7 hA
  have b8 := wf_nq8 hA
  have b6 := wf_nt6 hA
  have b61 := wf_nt1 hA
  have b160 := wf_tp160 hA
  have brl := wf_rlt hA
  refine am_of moX7_told (Nat.le_of_ble_eq_true rfl) ?_
  show am_Ev G mX7_told (am_R (D + 2) 0 0) 0 0 (am_q (.int (sp_told A p v)) σ) 0 [(0, .ref 65), (1, .int p), (2, .int v)] [] σ 0 0
  refine ev_aload_n dX7_told_0 rfl rfl ?_
  refine ev_iload_n dX7_told_1 rfl rfl ?_
  refine ev_callV (as := [.int p]) (st := []) dX7_told_2 mfX7_isOne lk_X7_177 (ly_k hI.ly 65 rfl) (by decide) rfl (c_X7_isOne G D A σ hA hI p) rfl rfl (Nat.le_of_ble_eq_true rfl) (am_hR (by omega) (by decide)) ⟨Nat.le_refl _, Nat.le_refl _⟩ ?_
  rintro _ _ (⟨⟨j1, h1, rfl⟩, rfl, rfl⟩ | ⟨h1, rfl, rfl⟩)
  · skip
    refine ev_if_ne (tgt := 11) dX7_told_5 (by decide) (fun _ => ?_) (fun c => absurd c (by decide))
    refine ev_iload_n dX7_told_11 rfl rfl ?_
    by_cases c2 : v = 0 ∨ v = 1 ∨ v = 2 ∨ v = 3 ∨ v = 4 ∨ v = 5 ∨ v = 6 ∨ v = 7
    · rcases c2 with c2 | c2 | c2 | c2 | c2 | c2 | c2 | c2
      · subst c2
        refine ev_tableIn (tgt := 60) (off := 48) dX7_told_12 (by decide) (by decide) rfl (by decide) ?_
        refine ev_aload_n dX7_told_60 rfl rfl ?_
        refine ev_getR (b := 70) dX7_told_61 fl_X7_22 (ly_k hI.ly 65 rfl) (ly_r hI.ly 33 rfl) ?_
        refine ev_iconst (v := 4) dX7_told_64 (by decide) ?_
        refine ev_iload_n dX7_told_65 rfl rfl ?_
        refine ev_imul (v := nI (4 * j1)) dX7_told_66 (pk_mul 4 j1) ?_
        refine ev_iload_n dX7_told_67 rfl rfl ?_
        refine ev_iadd (v := nI (4 * j1 + 0)) dX7_told_68 (nI_add (4 * j1) 0) ?_
        refine ev_iald (v := A 70 (4 * j1 + 0)) dX7_told_69 (ly_k hI.ly 70 rfl) (am_ixn (by omega) (by decide)) (hI.rd 70 (4 * j1 + 0) rfl) ?_
        refine ev_reti dX7_told_70 rfl (Nat.zero_le _) (Nat.zero_le _) ?_
        refine ⟨?_, rfl⟩
        simp [sp_told, wf_np hA, wf_nq hA, wf_tp hA, wf_nt hA, wf_rl hA, am_inN h1 (by omega), sN_n (show j1 < 2 ^ 31 by omega), (by decide : am_in 0 4 = true), (by decide : am_in 1 4 = true), (by decide : am_in 2 4 = true), (by decide : am_in 3 4 = true), (by decide : am_in 4 4 = false), (by decide : am_in 5 4 = false), (by decide : am_in 6 4 = false), (by decide : am_in 7 4 = false), (by decide : sN 0 = 0), (by decide : sN 1 = 1), (by decide : sN 2 = 2), (by decide : sN 3 = 3), (by decide : sN 4 = 4), (by decide : sN 5 = 5), (by decide : sN 6 = 6), (by decide : sN 7 = 7)]
      · subst c2
        refine ev_tableIn (tgt := 60) (off := 48) dX7_told_12 (by decide) (by decide) rfl (by decide) ?_
        refine ev_aload_n dX7_told_60 rfl rfl ?_
        refine ev_getR (b := 70) dX7_told_61 fl_X7_22 (ly_k hI.ly 65 rfl) (ly_r hI.ly 33 rfl) ?_
        refine ev_iconst (v := 4) dX7_told_64 (by decide) ?_
        refine ev_iload_n dX7_told_65 rfl rfl ?_
        refine ev_imul (v := nI (4 * j1)) dX7_told_66 (pk_mul 4 j1) ?_
        refine ev_iload_n dX7_told_67 rfl rfl ?_
        refine ev_iadd (v := nI (4 * j1 + 1)) dX7_told_68 (nI_1 _) ?_
        refine ev_iald (v := A 70 (4 * j1 + 1)) dX7_told_69 (ly_k hI.ly 70 rfl) (am_ixn (by omega) (by decide)) (hI.rd 70 (4 * j1 + 1) rfl) ?_
        refine ev_reti dX7_told_70 rfl (Nat.zero_le _) (Nat.zero_le _) ?_
        refine ⟨?_, rfl⟩
        simp [sp_told, wf_np hA, wf_nq hA, wf_tp hA, wf_nt hA, wf_rl hA, am_inN h1 (by omega), sN_n (show j1 < 2 ^ 31 by omega), (by decide : am_in 0 4 = true), (by decide : am_in 1 4 = true), (by decide : am_in 2 4 = true), (by decide : am_in 3 4 = true), (by decide : am_in 4 4 = false), (by decide : am_in 5 4 = false), (by decide : am_in 6 4 = false), (by decide : am_in 7 4 = false), (by decide : sN 0 = 0), (by decide : sN 1 = 1), (by decide : sN 2 = 2), (by decide : sN 3 = 3), (by decide : sN 4 = 4), (by decide : sN 5 = 5), (by decide : sN 6 = 6), (by decide : sN 7 = 7)]
      · subst c2
        refine ev_tableIn (tgt := 60) (off := 48) dX7_told_12 (by decide) (by decide) rfl (by decide) ?_
        refine ev_aload_n dX7_told_60 rfl rfl ?_
        refine ev_getR (b := 70) dX7_told_61 fl_X7_22 (ly_k hI.ly 65 rfl) (ly_r hI.ly 33 rfl) ?_
        refine ev_iconst (v := 4) dX7_told_64 (by decide) ?_
        refine ev_iload_n dX7_told_65 rfl rfl ?_
        refine ev_imul (v := nI (4 * j1)) dX7_told_66 (pk_mul 4 j1) ?_
        refine ev_iload_n dX7_told_67 rfl rfl ?_
        refine ev_iadd (v := nI (4 * j1 + 2)) dX7_told_68 (nI_add (4 * j1) 2) ?_
        refine ev_iald (v := A 70 (4 * j1 + 2)) dX7_told_69 (ly_k hI.ly 70 rfl) (am_ixn (by omega) (by decide)) (hI.rd 70 (4 * j1 + 2) rfl) ?_
        refine ev_reti dX7_told_70 rfl (Nat.zero_le _) (Nat.zero_le _) ?_
        refine ⟨?_, rfl⟩
        simp [sp_told, wf_np hA, wf_nq hA, wf_tp hA, wf_nt hA, wf_rl hA, am_inN h1 (by omega), sN_n (show j1 < 2 ^ 31 by omega), (by decide : am_in 0 4 = true), (by decide : am_in 1 4 = true), (by decide : am_in 2 4 = true), (by decide : am_in 3 4 = true), (by decide : am_in 4 4 = false), (by decide : am_in 5 4 = false), (by decide : am_in 6 4 = false), (by decide : am_in 7 4 = false), (by decide : sN 0 = 0), (by decide : sN 1 = 1), (by decide : sN 2 = 2), (by decide : sN 3 = 3), (by decide : sN 4 = 4), (by decide : sN 5 = 5), (by decide : sN 6 = 6), (by decide : sN 7 = 7)]
      · subst c2
        refine ev_tableIn (tgt := 60) (off := 48) dX7_told_12 (by decide) (by decide) rfl (by decide) ?_
        refine ev_aload_n dX7_told_60 rfl rfl ?_
        refine ev_getR (b := 70) dX7_told_61 fl_X7_22 (ly_k hI.ly 65 rfl) (ly_r hI.ly 33 rfl) ?_
        refine ev_iconst (v := 4) dX7_told_64 (by decide) ?_
        refine ev_iload_n dX7_told_65 rfl rfl ?_
        refine ev_imul (v := nI (4 * j1)) dX7_told_66 (pk_mul 4 j1) ?_
        refine ev_iload_n dX7_told_67 rfl rfl ?_
        refine ev_iadd (v := nI (4 * j1 + 3)) dX7_told_68 (nI_add (4 * j1) 3) ?_
        refine ev_iald (v := A 70 (4 * j1 + 3)) dX7_told_69 (ly_k hI.ly 70 rfl) (am_ixn (by omega) (by decide)) (hI.rd 70 (4 * j1 + 3) rfl) ?_
        refine ev_reti dX7_told_70 rfl (Nat.zero_le _) (Nat.zero_le _) ?_
        refine ⟨?_, rfl⟩
        simp [sp_told, wf_np hA, wf_nq hA, wf_tp hA, wf_nt hA, wf_rl hA, am_inN h1 (by omega), sN_n (show j1 < 2 ^ 31 by omega), (by decide : am_in 0 4 = true), (by decide : am_in 1 4 = true), (by decide : am_in 2 4 = true), (by decide : am_in 3 4 = true), (by decide : am_in 4 4 = false), (by decide : am_in 5 4 = false), (by decide : am_in 6 4 = false), (by decide : am_in 7 4 = false), (by decide : sN 0 = 0), (by decide : sN 1 = 1), (by decide : sN 2 = 2), (by decide : sN 3 = 3), (by decide : sN 4 = 4), (by decide : sN 5 = 5), (by decide : sN 6 = 6), (by decide : sN 7 = 7)]
      · subst c2
        refine ev_tableIn (tgt := 71) (off := 59) dX7_told_12 (by decide) (by decide) rfl (by decide) ?_
        refine ev_aload_n dX7_told_71 rfl rfl ?_
        refine ev_getR (b := 69) dX7_told_72 fl_X7_19 (ly_k hI.ly 65 rfl) (ly_r hI.ly 32 rfl) ?_
        refine ev_iload_n dX7_told_75 rfl rfl ?_
        refine ev_iald (v := A 69 j1) dX7_told_76 (ly_k hI.ly 69 rfl) (am_ixn (by omega) (by decide)) (hI.rd 69 j1 rfl) ?_
        refine ev_reti dX7_told_77 rfl (Nat.zero_le _) (Nat.zero_le _) ?_
        refine ⟨?_, rfl⟩
        simp [sp_told, wf_np hA, wf_nq hA, wf_tp hA, wf_nt hA, wf_rl hA, am_inN h1 (by omega), sN_n (show j1 < 2 ^ 31 by omega), (by decide : am_in 0 4 = true), (by decide : am_in 1 4 = true), (by decide : am_in 2 4 = true), (by decide : am_in 3 4 = true), (by decide : am_in 4 4 = false), (by decide : am_in 5 4 = false), (by decide : am_in 6 4 = false), (by decide : am_in 7 4 = false), (by decide : sN 0 = 0), (by decide : sN 1 = 1), (by decide : sN 2 = 2), (by decide : sN 3 = 3), (by decide : sN 4 = 4), (by decide : sN 5 = 5), (by decide : sN 6 = 6), (by decide : sN 7 = 7)]
      · subst c2
        refine ev_tableIn (tgt := 78) (off := 66) dX7_told_12 (by decide) (by decide) rfl (by decide) ?_
        refine ev_aload_n dX7_told_78 rfl rfl ?_
        refine ev_getR (b := 66) dX7_told_79 fl_X7_7 (ly_k hI.ly 65 rfl) (ly_r hI.ly 29 rfl) ?_
        refine ev_iload_n dX7_told_82 rfl rfl ?_
        refine ev_iald (v := A 66 j1) dX7_told_83 (ly_k hI.ly 66 rfl) (am_ixn (by omega) (by decide)) (hI.rd 66 j1 rfl) ?_
        refine ev_reti dX7_told_84 rfl (Nat.zero_le _) (Nat.zero_le _) ?_
        refine ⟨?_, rfl⟩
        simp [sp_told, wf_np hA, wf_nq hA, wf_tp hA, wf_nt hA, wf_rl hA, am_inN h1 (by omega), sN_n (show j1 < 2 ^ 31 by omega), (by decide : am_in 0 4 = true), (by decide : am_in 1 4 = true), (by decide : am_in 2 4 = true), (by decide : am_in 3 4 = true), (by decide : am_in 4 4 = false), (by decide : am_in 5 4 = false), (by decide : am_in 6 4 = false), (by decide : am_in 7 4 = false), (by decide : sN 0 = 0), (by decide : sN 1 = 1), (by decide : sN 2 = 2), (by decide : sN 3 = 3), (by decide : sN 4 = 4), (by decide : sN 5 = 5), (by decide : sN 6 = 6), (by decide : sN 7 = 7)]
      · subst c2
        refine ev_tableIn (tgt := 85) (off := 73) dX7_told_12 (by decide) (by decide) rfl (by decide) ?_
        refine ev_aload_n dX7_told_85 rfl rfl ?_
        refine ev_getR (b := 67) dX7_told_86 fl_X7_13 (ly_k hI.ly 65 rfl) (ly_r hI.ly 30 rfl) ?_
        refine ev_iload_n dX7_told_89 rfl rfl ?_
        refine ev_iald (v := A 67 j1) dX7_told_90 (ly_k hI.ly 67 rfl) (am_ixn (by omega) (by decide)) (hI.rd 67 j1 rfl) ?_
        refine ev_reti dX7_told_91 rfl (Nat.zero_le _) (Nat.zero_le _) ?_
        refine ⟨?_, rfl⟩
        simp [sp_told, wf_np hA, wf_nq hA, wf_tp hA, wf_nt hA, wf_rl hA, am_inN h1 (by omega), sN_n (show j1 < 2 ^ 31 by omega), (by decide : am_in 0 4 = true), (by decide : am_in 1 4 = true), (by decide : am_in 2 4 = true), (by decide : am_in 3 4 = true), (by decide : am_in 4 4 = false), (by decide : am_in 5 4 = false), (by decide : am_in 6 4 = false), (by decide : am_in 7 4 = false), (by decide : sN 0 = 0), (by decide : sN 1 = 1), (by decide : sN 2 = 2), (by decide : sN 3 = 3), (by decide : sN 4 = 4), (by decide : sN 5 = 5), (by decide : sN 6 = 6), (by decide : sN 7 = 7)]
      · subst c2
        refine ev_tableIn (tgt := 92) (off := 80) dX7_told_12 (by decide) (by decide) rfl (by decide) ?_
        refine ev_aload_n dX7_told_92 rfl rfl ?_
        refine ev_getR (b := 68) dX7_told_93 fl_X7_16 (ly_k hI.ly 65 rfl) (ly_r hI.ly 31 rfl) ?_
        refine ev_iload_n dX7_told_96 rfl rfl ?_
        refine ev_iald (v := A 68 j1) dX7_told_97 (ly_k hI.ly 68 rfl) (am_ixn (by omega) (by decide)) (hI.rd 68 j1 rfl) ?_
        refine ev_reti dX7_told_98 rfl (Nat.zero_le _) (Nat.zero_le _) ?_
        refine ⟨?_, rfl⟩
        simp [sp_told, wf_np hA, wf_nq hA, wf_tp hA, wf_nt hA, wf_rl hA, am_inN h1 (by omega), sN_n (show j1 < 2 ^ 31 by omega), (by decide : am_in 0 4 = true), (by decide : am_in 1 4 = true), (by decide : am_in 2 4 = true), (by decide : am_in 3 4 = true), (by decide : am_in 4 4 = false), (by decide : am_in 5 4 = false), (by decide : am_in 6 4 = false), (by decide : am_in 7 4 = false), (by decide : sN 0 = 0), (by decide : sN 1 = 1), (by decide : sN 2 = 2), (by decide : sN 3 = 3), (by decide : sN 4 = 4), (by decide : sN 5 = 5), (by decide : sN 6 = 6), (by decide : sN 7 = 7)]
    · skip
      refine ev_tableOut (tgt := 99) dX7_told_12 (by simp [← Int32.toInt_inj] at c2; omega) (by decide) ?_
      refine ev_bipush (v := (-7)) dX7_told_99 (by decide) ?_
      refine ev_reti dX7_told_101 rfl (Nat.zero_le _) (Nat.zero_le _) ?_
      have hz : am_in v 4 = false := by
        unfold am_in
        simp [← Int32.toInt_inj] at c2 ⊢
        omega
      simp only [not_or] at c2
      refine ⟨?_, rfl⟩
      simp [sp_told, wf_np hA, wf_nq hA, wf_tp hA, wf_nt hA, wf_rl hA, am_inN h1 (by omega), sN_n (show j1 < 2 ^ 31 by omega), hz, c2]
  · skip
    refine ev_if_ne (tgt := 11) dX7_told_5 (by decide) (fun c => absurd (by decide) c) (fun _ => ?_)
    refine ev_bipush (v := (-5)) dX7_told_8 (by decide) ?_
    refine ev_reti dX7_told_10 rfl (Nat.zero_le _) (Nat.zero_le _) ?_
    refine ⟨?_, rfl⟩
    simp [sp_told, wf_np hA, wf_nq hA, wf_tp hA, wf_nt hA, wf_rl hA, am_inF (by omega) h1, (by decide : am_in 0 4 = true), (by decide : am_in 1 4 = true), (by decide : am_in 2 4 = true), (by decide : am_in 3 4 = true), (by decide : am_in 4 4 = false), (by decide : am_in 5 4 = false), (by decide : am_in 6 4 = false), (by decide : am_in 7 4 = false), (by decide : sN 0 = 0), (by decide : sN 1 = 1), (by decide : sN 2 = 2), (by decide : sN 3 = 3), (by decide : sN 4 = 4), (by decide : sN 5 = 5), (by decide : sN 6 = 6), (by decide : sN 7 = 7)]

set_option maxHeartbeats 400000 in
set_option maxRecDepth 100000 in
theorem c_X7_come (G : am_G) (D : Nat) (A : am_S) (σ : am_M) (hA : wf_A A) (hI : iv_M A σ) (km l a : Int32) : am_Mt G (D + 1) mX7_come [.ref 65, .int km, .int l, .int a] σ 0 0 (am_qP (sp_come A km l a) σ) := by
  have b7 := wf_np7 hA
  have b8 := wf_nq8 hA
  have b6 := wf_nt6 hA
  have b61 := wf_nt1 hA
  have b160 := wf_tp160 hA
  have brl := wf_rlt hA
  refine am_of moX7_come (Nat.le_of_ble_eq_true rfl) ?_
  show am_Ev G mX7_come (am_R (D + 1) 0 0) 0 0 (am_qP (sp_come A km l a) σ) 0 [(0, .ref 65), (1, .int km), (2, .int l), (3, .int a)] [] σ 0 0
  refine ev_iload_n dX7_come_0 rfl rfl ?_
  refine ev_iconst (v := 0) dX7_come_1 (by decide) ?_
  refine ev_bipush (v := 59) dX7_come_2 (by decide) ?_
  refine ev_callS (as := [.int km, .int 0, .int 59]) (st := []) dX7_come_4 mfX7_in lk_X7_90 (c_X7_in G D σ km 0 59) rfl rfl (Nat.le_of_ble_eq_true rfl) (am_hR (by omega) (by decide)) ⟨Nat.le_refl _, Nat.le_refl _⟩ ?_
  rintro _ _ (⟨h1, rfl, rfl⟩ | ⟨h1, rfl, rfl⟩)
  · skip
    obtain ⟨j1, h1r, rfl⟩ := (am_rgl (n := 60) (by decide)).mp h1
    refine ev_if_eq (tgt := 29) dX7_come_7 (by decide) (fun c => absurd c (by decide)) (fun _ => ?_)
    refine ev_iload_n dX7_come_10 rfl rfl ?_
    refine ev_iconst (v := 0) dX7_come_11 (by decide) ?_
    refine ev_bipush (v := 20) dX7_come_12 (by decide) ?_
    refine ev_callS (as := [.int l, .int 0, .int 20]) (st := []) dX7_come_14 mfX7_in lk_X7_90 (c_X7_in G D σ l 0 20) rfl rfl (Nat.le_of_ble_eq_true rfl) (am_hR (by omega) (by decide)) ⟨Nat.le_refl _, Nat.le_refl _⟩ ?_
    rintro _ _ (⟨h2, rfl, rfl⟩ | ⟨h2, rfl, rfl⟩)
    · skip
      obtain ⟨j2, h2r, rfl⟩ := (am_rgl (n := 21) (by decide)).mp h2
      refine ev_if_eq (tgt := 29) dX7_come_17 (by decide) (fun c => absurd c (by decide)) (fun _ => ?_)
      refine ev_iload_n dX7_come_20 rfl rfl ?_
      refine ev_iconst (v := (-1)) dX7_come_21 (by decide) ?_
      refine ev_iconst (v := 2) dX7_come_22 (by decide) ?_
      refine ev_callS (as := [.int a, .int (-1), .int 2]) (st := []) dX7_come_23 mfX7_in lk_X7_90 (c_X7_in G D σ a (-1) 2) rfl rfl (Nat.le_of_ble_eq_true rfl) (am_hR (by omega) (by decide)) ⟨Nat.le_refl _, Nat.le_refl _⟩ ?_
      rintro _ _ (⟨h3, rfl, rfl⟩ | ⟨h3, rfl, rfl⟩)
      · skip
        have h3s := am_sbT h3
        refine ev_if_ne (tgt := 32) dX7_come_26 (by decide) (fun _ => ?_) (fun c => absurd c (by decide))
        refine ev_aload_n dX7_come_32 rfl rfl ?_
        refine ev_getI (v := nI (s_np A)) dX7_come_33 fl_X7_87 (ly_k hI.ly 65 rfl) ((hI.rd 65 0 rfl).trans (wf_np hA)) ?_
        refine ev_bipush (v := 7) dX7_come_36 (by decide) ?_
        refine ev_icmp_ne (tgt := 44) dX7_come_38 (by decide) (fun c4 => ?_) (fun c4 => ?_)
        · skip
          have c4n : ¬ (s_np A) = 7 := fun zz => c4 ((nI_eq (a := (s_np A)) (b := 7) (by omega) (by omega)).mpr zz)
          refine ev_aload_n dX7_come_44 rfl rfl ?_
          refine ev_getR (b := 66) dX7_come_45 fl_X7_7 (ly_k hI.ly 65 rfl) (ly_r hI.ly 29 rfl) ?_
          refine ev_aload_n dX7_come_48 rfl rfl ?_
          refine ev_getI (v := nI (s_np A)) dX7_come_49 fl_X7_87 (ly_k hI.ly 65 rfl) ((hI.rd 65 0 rfl).trans (wf_np hA)) ?_
          refine ev_iload_n dX7_come_52 rfl rfl ?_
          refine ev_bipush (v := 10) dX7_come_53 (by decide) ?_
          refine ev_idiv (v := (nI j1) / 10) dX7_come_55 (by decide) rfl ?_
          refine ev_iast dX7_come_56 (ly_k hI.ly 66 rfl) (am_ixn (by omega) (by decide)) ?_
          refine ev_aload_n dX7_come_57 rfl rfl ?_
          refine ev_getR (b := 68) dX7_come_58 fl_X7_16 (ly_k (iv_M.up hI).ly 65 rfl) (ly_r (iv_M.up hI).ly 31 rfl) ?_
          refine ev_aload_n dX7_come_61 rfl rfl ?_
          refine ev_getI (v := nI (s_np A)) dX7_come_62 fl_X7_87 (ly_k (iv_M.up hI).ly 65 rfl) (am_ru (by omega) ((hI.rd 65 0 rfl).trans (wf_np hA))) ?_
          refine ev_iload_n dX7_come_65 rfl rfl ?_
          refine ev_bipush (v := 10) dX7_come_66 (by decide) ?_
          refine ev_irem (v := (nI j1) - (nI j1) / 10 * 10) dX7_come_68 (by decide) rfl ?_
          refine ev_iast dX7_come_69 (ly_k (iv_M.up hI).ly 68 rfl) (am_ixn (by omega) (by decide)) ?_
          refine ev_aload_n dX7_come_70 rfl rfl ?_
          refine ev_getR (b := 67) dX7_come_71 fl_X7_13 (ly_k (iv_M.up (iv_M.up hI)).ly 65 rfl) (ly_r (iv_M.up (iv_M.up hI)).ly 30 rfl) ?_
          refine ev_aload_n dX7_come_74 rfl rfl ?_
          refine ev_getI (v := nI (s_np A)) dX7_come_75 fl_X7_87 (ly_k (iv_M.up (iv_M.up hI)).ly 65 rfl) (am_ru (by omega) (am_ru (by omega) ((hI.rd 65 0 rfl).trans (wf_np hA)))) ?_
          refine ev_iload_n dX7_come_78 rfl rfl ?_
          refine ev_iast dX7_come_79 (ly_k (iv_M.up (iv_M.up hI)).ly 67 rfl) (am_ixn (by omega) (by decide)) ?_
          refine ev_aload_n dX7_come_80 rfl rfl ?_
          refine ev_getR (b := 69) dX7_come_81 fl_X7_19 (ly_k (iv_M.up (iv_M.up (iv_M.up hI))).ly 65 rfl) (ly_r (iv_M.up (iv_M.up (iv_M.up hI))).ly 32 rfl) ?_
          refine ev_aload_n dX7_come_84 rfl rfl ?_
          refine ev_getI (v := nI (s_np A)) dX7_come_85 fl_X7_87 (ly_k (iv_M.up (iv_M.up (iv_M.up hI))).ly 65 rfl) (am_ru (by omega) (am_ru (by omega) (am_ru (by omega) ((hI.rd 65 0 rfl).trans (wf_np hA))))) ?_
          refine ev_iload_n dX7_come_88 rfl rfl ?_
          refine ev_iast dX7_come_89 (ly_k (iv_M.up (iv_M.up (iv_M.up hI))).ly 69 rfl) (am_ixn (by omega) (by decide)) ?_
          refine ev_iconst (v := 0) dX7_come_90 (by decide) ?_
          refine ev_istore (lv' := [(0, .ref 65), (1, .int (nI j1)), (2, .int (nI j2)), (3, .int a), (4, .int 0)]) dX7_come_91 (by decide) rfl ?_
          refine ev_iload dX7_come_93 rfl ?_
          refine ev_iconst (v := 4) dX7_come_95 (by decide) ?_
          refine ev_icmp_ge (tgt := 120) dX7_come_96 (by decide) (fun c => absurd c (by decide)) (fun _ => ?_)
          refine ev_aload_n dX7_come_99 rfl rfl ?_
          refine ev_getR (b := 70) dX7_come_100 fl_X7_22 (ly_k (iv_M.up (iv_M.up (iv_M.up (iv_M.up hI)))).ly 65 rfl) (ly_r (iv_M.up (iv_M.up (iv_M.up (iv_M.up hI)))).ly 33 rfl) ?_
          refine ev_iconst (v := 4) dX7_come_103 (by decide) ?_
          refine ev_aload_n dX7_come_104 rfl rfl ?_
          refine ev_getI (v := nI (s_np A)) dX7_come_105 fl_X7_87 (ly_k (iv_M.up (iv_M.up (iv_M.up (iv_M.up hI)))).ly 65 rfl) (am_ru (by omega) (am_ru (by omega) (am_ru (by omega) (am_ru (by omega) ((hI.rd 65 0 rfl).trans (wf_np hA)))))) ?_
          refine ev_imul (v := nI (4 * (s_np A))) dX7_come_108 (pk_mul 4 (s_np A)) ?_
          refine ev_iload dX7_come_109 rfl ?_
          refine ev_iadd (v := nI (4 * (s_np A) + 0)) dX7_come_111 (nI_add (4 * (s_np A)) 0) ?_
          refine ev_iconst (v := 0) dX7_come_112 (by decide) ?_
          refine ev_iast dX7_come_113 (ly_k (iv_M.up (iv_M.up (iv_M.up (iv_M.up hI)))).ly 70 rfl) (am_ixn (by omega) (by decide)) ?_
          refine ev_iinc (lv' := [(0, .ref 65), (1, .int (nI j1)), (2, .int (nI j2)), (3, .int a), (4, .int 1)]) (v := 1) dX7_come_114 rfl (by decide) (by decide) rfl ?_
          refine ev_goto (tgt := 93) dX7_come_117 (by decide) ?_
          refine ev_iload dX7_come_93 rfl ?_
          refine ev_iconst (v := 4) dX7_come_95 (by decide) ?_
          refine ev_icmp_ge (tgt := 120) dX7_come_96 (by decide) (fun c => absurd c (by decide)) (fun _ => ?_)
          refine ev_aload_n dX7_come_99 rfl rfl ?_
          refine ev_getR (b := 70) dX7_come_100 fl_X7_22 (ly_k (iv_M.up (iv_M.up (iv_M.up (iv_M.up (iv_M.up hI))))).ly 65 rfl) (ly_r (iv_M.up (iv_M.up (iv_M.up (iv_M.up (iv_M.up hI))))).ly 33 rfl) ?_
          refine ev_iconst (v := 4) dX7_come_103 (by decide) ?_
          refine ev_aload_n dX7_come_104 rfl rfl ?_
          refine ev_getI (v := nI (s_np A)) dX7_come_105 fl_X7_87 (ly_k (iv_M.up (iv_M.up (iv_M.up (iv_M.up (iv_M.up hI))))).ly 65 rfl) (am_ru (by omega) (am_ru (by omega) (am_ru (by omega) (am_ru (by omega) (am_ru (by omega) ((hI.rd 65 0 rfl).trans (wf_np hA))))))) ?_
          refine ev_imul (v := nI (4 * (s_np A))) dX7_come_108 (pk_mul 4 (s_np A)) ?_
          refine ev_iload dX7_come_109 rfl ?_
          refine ev_iadd (v := nI (4 * (s_np A) + 1)) dX7_come_111 (nI_1 _) ?_
          refine ev_iconst (v := 0) dX7_come_112 (by decide) ?_
          refine ev_iast dX7_come_113 (ly_k (iv_M.up (iv_M.up (iv_M.up (iv_M.up (iv_M.up hI))))).ly 70 rfl) (am_ixn (by omega) (by decide)) ?_
          refine ev_iinc (lv' := [(0, .ref 65), (1, .int (nI j1)), (2, .int (nI j2)), (3, .int a), (4, .int 2)]) (v := 2) dX7_come_114 rfl (by decide) (by decide) rfl ?_
          refine ev_goto (tgt := 93) dX7_come_117 (by decide) ?_
          refine ev_iload dX7_come_93 rfl ?_
          refine ev_iconst (v := 4) dX7_come_95 (by decide) ?_
          refine ev_icmp_ge (tgt := 120) dX7_come_96 (by decide) (fun c => absurd c (by decide)) (fun _ => ?_)
          refine ev_aload_n dX7_come_99 rfl rfl ?_
          refine ev_getR (b := 70) dX7_come_100 fl_X7_22 (ly_k (iv_M.up (iv_M.up (iv_M.up (iv_M.up (iv_M.up (iv_M.up hI)))))).ly 65 rfl) (ly_r (iv_M.up (iv_M.up (iv_M.up (iv_M.up (iv_M.up (iv_M.up hI)))))).ly 33 rfl) ?_
          refine ev_iconst (v := 4) dX7_come_103 (by decide) ?_
          refine ev_aload_n dX7_come_104 rfl rfl ?_
          refine ev_getI (v := nI (s_np A)) dX7_come_105 fl_X7_87 (ly_k (iv_M.up (iv_M.up (iv_M.up (iv_M.up (iv_M.up (iv_M.up hI)))))).ly 65 rfl) (am_ru (by omega) (am_ru (by omega) (am_ru (by omega) (am_ru (by omega) (am_ru (by omega) (am_ru (by omega) ((hI.rd 65 0 rfl).trans (wf_np hA)))))))) ?_
          refine ev_imul (v := nI (4 * (s_np A))) dX7_come_108 (pk_mul 4 (s_np A)) ?_
          refine ev_iload dX7_come_109 rfl ?_
          refine ev_iadd (v := nI (4 * (s_np A) + 2)) dX7_come_111 (nI_add (4 * (s_np A)) 2) ?_
          refine ev_iconst (v := 0) dX7_come_112 (by decide) ?_
          refine ev_iast dX7_come_113 (ly_k (iv_M.up (iv_M.up (iv_M.up (iv_M.up (iv_M.up (iv_M.up hI)))))).ly 70 rfl) (am_ixn (by omega) (by decide)) ?_
          refine ev_iinc (lv' := [(0, .ref 65), (1, .int (nI j1)), (2, .int (nI j2)), (3, .int a), (4, .int 3)]) (v := 3) dX7_come_114 rfl (by decide) (by decide) rfl ?_
          refine ev_goto (tgt := 93) dX7_come_117 (by decide) ?_
          refine ev_iload dX7_come_93 rfl ?_
          refine ev_iconst (v := 4) dX7_come_95 (by decide) ?_
          refine ev_icmp_ge (tgt := 120) dX7_come_96 (by decide) (fun c => absurd c (by decide)) (fun _ => ?_)
          refine ev_aload_n dX7_come_99 rfl rfl ?_
          refine ev_getR (b := 70) dX7_come_100 fl_X7_22 (ly_k (iv_M.up (iv_M.up (iv_M.up (iv_M.up (iv_M.up (iv_M.up (iv_M.up hI))))))).ly 65 rfl) (ly_r (iv_M.up (iv_M.up (iv_M.up (iv_M.up (iv_M.up (iv_M.up (iv_M.up hI))))))).ly 33 rfl) ?_
          refine ev_iconst (v := 4) dX7_come_103 (by decide) ?_
          refine ev_aload_n dX7_come_104 rfl rfl ?_
          refine ev_getI (v := nI (s_np A)) dX7_come_105 fl_X7_87 (ly_k (iv_M.up (iv_M.up (iv_M.up (iv_M.up (iv_M.up (iv_M.up (iv_M.up hI))))))).ly 65 rfl) (am_ru (by omega) (am_ru (by omega) (am_ru (by omega) (am_ru (by omega) (am_ru (by omega) (am_ru (by omega) (am_ru (by omega) ((hI.rd 65 0 rfl).trans (wf_np hA))))))))) ?_
          refine ev_imul (v := nI (4 * (s_np A))) dX7_come_108 (pk_mul 4 (s_np A)) ?_
          refine ev_iload dX7_come_109 rfl ?_
          refine ev_iadd (v := nI (4 * (s_np A) + 3)) dX7_come_111 (nI_add (4 * (s_np A)) 3) ?_
          refine ev_iconst (v := 0) dX7_come_112 (by decide) ?_
          refine ev_iast dX7_come_113 (ly_k (iv_M.up (iv_M.up (iv_M.up (iv_M.up (iv_M.up (iv_M.up (iv_M.up hI))))))).ly 70 rfl) (am_ixn (by omega) (by decide)) ?_
          refine ev_iinc (lv' := [(0, .ref 65), (1, .int (nI j1)), (2, .int (nI j2)), (3, .int a), (4, .int 4)]) (v := 4) dX7_come_114 rfl (by decide) (by decide) rfl ?_
          refine ev_goto (tgt := 93) dX7_come_117 (by decide) ?_
          refine ev_iload dX7_come_93 rfl ?_
          refine ev_iconst (v := 4) dX7_come_95 (by decide) ?_
          refine ev_icmp_ge (tgt := 120) dX7_come_96 (by decide) (fun _ => ?_) (fun c => absurd (by decide) c)
          refine ev_aload_n dX7_come_120 rfl rfl ?_
          refine ev_dup dX7_come_121 rfl ?_
          refine ev_getI (v := nI (s_np A)) dX7_come_122 fl_X7_87 (ly_k (iv_M.up (iv_M.up (iv_M.up (iv_M.up (iv_M.up (iv_M.up (iv_M.up (iv_M.up hI)))))))).ly 65 rfl) (am_ru (by omega) (am_ru (by omega) (am_ru (by omega) (am_ru (by omega) (am_ru (by omega) (am_ru (by omega) (am_ru (by omega) (am_ru (by omega) ((hI.rd 65 0 rfl).trans (wf_np hA)))))))))) ?_
          refine ev_iconst (v := 1) dX7_come_125 (by decide) ?_
          refine ev_iadd (v := nI (s_np A + 1)) dX7_come_126 (nI_1 _) ?_
          refine ev_putI dX7_come_127 fl_X7_87 rfl rfl (ly_k (iv_M.up (iv_M.up (iv_M.up (iv_M.up (iv_M.up (iv_M.up (iv_M.up (iv_M.up hI)))))))).ly 65 rfl) ?_
          refine ev_aload_n dX7_come_130 rfl rfl ?_
          refine ev_getI (v := nI (s_np A + 1)) dX7_come_131 fl_X7_87 (ly_k (iv_M.up (iv_M.up (iv_M.up (iv_M.up (iv_M.up (iv_M.up (iv_M.up (iv_M.up (iv_M.up hI))))))))).ly 65 rfl) am_rs ?_
          refine ev_iconst (v := 1) dX7_come_134 (by decide) ?_
          refine ev_isub (v := nI (s_np A)) dX7_come_135 (nI_pred _) ?_
          refine ev_reti dX7_come_136 rfl (Nat.zero_le _) (Nat.zero_le _) ?_
          refine am_qPi ?_ (iv_M.up (iv_M.up (iv_M.up (iv_M.up (iv_M.up (iv_M.up (iv_M.up (iv_M.up (iv_M.up hI))))))))) (fr_M.wr (by decide) (fr_M.wr (by decide) (fr_M.wr (by decide) (fr_M.wr (by decide) (fr_M.wr (by decide) (fr_M.wr (by decide) (fr_M.wr (by decide) (fr_M.wr (by decide) (fr_M.wr (by decide) fr_M.rf)))))))))
          simp [sp_come, s_cm, wf_np hA, wf_nq hA, wf_tp hA, wf_nt hA, wf_rl hA, am_inN h1r (by omega), sN_n (show j1 < 2 ^ 31 by omega), am_inN h2r (by omega), sN_n (show j2 < 2 ^ 31 by omega), h3s, c4, c4n]
        · skip
          have c4n : (s_np A) = 7 := (nI_eq (a := (s_np A)) (b := 7) (by omega) (by omega)).mp c4
          refine ev_bipush (v := (-4)) dX7_come_41 (by decide) ?_
          refine ev_reti dX7_come_43 rfl (Nat.zero_le _) (Nat.zero_le _) ?_
          refine am_qPi ?_ hI fr_M.rf
          simp [sp_come, s_cm, wf_np hA, wf_nq hA, wf_tp hA, wf_nt hA, wf_rl hA, am_inN h1r (by omega), sN_n (show j1 < 2 ^ 31 by omega), am_inN h2r (by omega), sN_n (show j2 < 2 ^ 31 by omega), h3s, c4, c4n]
      · skip
        have h3s := am_sbF h3
        refine ev_if_ne (tgt := 32) dX7_come_26 (by decide) (fun c => absurd (by decide) c) (fun _ => ?_)
        refine ev_bipush (v := (-2)) dX7_come_29 (by decide) ?_
        refine ev_reti dX7_come_31 rfl (Nat.zero_le _) (Nat.zero_le _) ?_
        refine am_qPi ?_ hI fr_M.rf
        simp [sp_come, s_cm, wf_np hA, wf_nq hA, wf_tp hA, wf_nt hA, wf_rl hA, am_inN h1r (by omega), sN_n (show j1 < 2 ^ 31 by omega), am_inN h2r (by omega), sN_n (show j2 < 2 ^ 31 by omega), h3s]
    · skip
      have h2r := fun q => h2 ((am_rgl (n := 21) (by decide)).mpr q)
      refine ev_if_eq (tgt := 29) dX7_come_17 (by decide) (fun _ => ?_) (fun c => absurd (by decide) c)
      refine ev_bipush (v := (-2)) dX7_come_29 (by decide) ?_
      refine ev_reti dX7_come_31 rfl (Nat.zero_le _) (Nat.zero_le _) ?_
      refine am_qPi ?_ hI fr_M.rf
      simp [sp_come, s_cm, wf_np hA, wf_nq hA, wf_tp hA, wf_nt hA, wf_rl hA, am_inN h1r (by omega), sN_n (show j1 < 2 ^ 31 by omega), am_inF (by omega) h2r]
  · skip
    have h1r := fun q => h1 ((am_rgl (n := 60) (by decide)).mpr q)
    refine ev_if_eq (tgt := 29) dX7_come_7 (by decide) (fun _ => ?_) (fun c => absurd (by decide) c)
    refine ev_bipush (v := (-2)) dX7_come_29 (by decide) ?_
    refine ev_reti dX7_come_31 rfl (Nat.zero_le _) (Nat.zero_le _) ?_
    refine am_qPi ?_ hI fr_M.rf
    simp [sp_come, s_cm, wf_np hA, wf_nq hA, wf_tp hA, wf_nt hA, wf_rl hA, am_inF (by omega) h1r]

set_option maxHeartbeats 400000 in
set_option maxRecDepth 100000 in
theorem c_X7_sheetWrong (G : am_G) (D : Nat) (A : am_S) (σ : am_M) (hA : wf_A A) (hI : iv_M A σ) (v : Int32) : am_Mt G (D + 1) mX7_sheetWrong [.ref 65, .int v] σ 0 0 (am_q (.int (s_wr A v)) σ) := by
  have b7 := wf_np7 hA
  have b8 := wf_nq8 hA
  have b6 := wf_nt6 hA
  have b61 := wf_nt1 hA
  have b160 := wf_tp160 hA
  have brl := wf_rlt hA
  refine am_of moX7_sheetWrong (Nat.le_of_ble_eq_true rfl) ?_
  show am_Ev G mX7_sheetWrong (am_R (D + 1) 0 0) 0 0 (am_q (.int (s_wr A v)) σ) 0 [(0, .ref 65), (1, .int v)] [] σ 0 0
  refine ev_iload_n dX7_sheetWrong_0 rfl rfl ?_
  refine ev_iconst (v := 0) dX7_sheetWrong_1 (by decide) ?_
  refine ev_iconst (v := 3) dX7_sheetWrong_2 (by decide) ?_
  refine ev_callS (as := [.int v, .int 0, .int 3]) (st := []) dX7_sheetWrong_3 mfX7_in lk_X7_90 (c_X7_in G D σ v 0 3) rfl rfl (Nat.le_of_ble_eq_true rfl) (am_hR (by omega) (by decide)) ⟨Nat.le_refl _, Nat.le_refl _⟩ ?_
  rintro _ _ (⟨h1, rfl, rfl⟩ | ⟨h1, rfl, rfl⟩)
  · skip
    obtain ⟨j1, h1r, rfl⟩ := (am_rgl (n := 4) (by decide)).mp h1
    refine ev_if_ne (tgt := 12) dX7_sheetWrong_6 (by decide) (fun _ => ?_) (fun c => absurd c (by decide))
    refine ev_aload_n dX7_sheetWrong_12 rfl rfl ?_
    refine ev_getR (b := 80) dX7_sheetWrong_13 fl_X7_52 (ly_k hI.ly 65 rfl) (ly_r hI.ly 43 rfl) ?_
    refine ev_iload_n dX7_sheetWrong_16 rfl rfl ?_
    refine ev_iald (v := A 80 j1) dX7_sheetWrong_17 (ly_k hI.ly 80 rfl) (am_ixn (by omega) (by decide)) (hI.rd 80 j1 rfl) ?_
    refine ev_iconst (v := (-1)) dX7_sheetWrong_18 (by decide) ?_
    refine ev_icmp_ne (tgt := 25) dX7_sheetWrong_19 (by decide) (fun c2 => ?_) (fun c2 => ?_)
    · skip
      refine ev_aload_n dX7_sheetWrong_25 rfl rfl ?_
      refine ev_getR (b := 81) dX7_sheetWrong_26 fl_X7_55 (ly_k hI.ly 65 rfl) (ly_r hI.ly 44 rfl) ?_
      refine ev_iload_n dX7_sheetWrong_29 rfl rfl ?_
      refine ev_iald (v := A 81 j1) dX7_sheetWrong_30 (ly_k hI.ly 81 rfl) (am_ixn (by omega) (by decide)) (hI.rd 81 j1 rfl) ?_
      refine ev_aload_n dX7_sheetWrong_31 rfl rfl ?_
      refine ev_getI (v := A 65 6) dX7_sheetWrong_32 fl_X7_94 (ly_k hI.ly 65 rfl) (hI.rd 65 6 rfl) ?_
      refine ev_icmp_ne (tgt := 42) dX7_sheetWrong_35 (by decide) (fun c3 => ?_) (fun c3 => ?_)
      · skip
        refine ev_bipush (v := (-2)) dX7_sheetWrong_42 (by decide) ?_
        refine ev_reti dX7_sheetWrong_44 rfl (Nat.zero_le _) (Nat.zero_le _) ?_
        refine ⟨?_, rfl⟩
        simp [s_wr, am_inN h1r (by omega), sN_n (show j1 < 2 ^ 31 by omega), c2, c3]
      · skip
        refine ev_iconst (v := 0) dX7_sheetWrong_38 (by decide) ?_
        refine ev_goto (tgt := 44) dX7_sheetWrong_39 (by decide) ?_
        refine ev_reti dX7_sheetWrong_44 rfl (Nat.zero_le _) (Nat.zero_le _) ?_
        refine ⟨?_, rfl⟩
        simp [s_wr, am_inN h1r (by omega), sN_n (show j1 < 2 ^ 31 by omega), c2, c3]
    · skip
      refine ev_bipush (v := (-11)) dX7_sheetWrong_22 (by decide) ?_
      refine ev_reti dX7_sheetWrong_24 rfl (Nat.zero_le _) (Nat.zero_le _) ?_
      refine ⟨?_, rfl⟩
      simp [s_wr, am_inN h1r (by omega), sN_n (show j1 < 2 ^ 31 by omega), c2]
  · skip
    have h1r := fun q => h1 ((am_rgl (n := 4) (by decide)).mpr q)
    refine ev_if_ne (tgt := 12) dX7_sheetWrong_6 (by decide) (fun c => absurd (by decide) c) (fun _ => ?_)
    refine ev_bipush (v := (-2)) dX7_sheetWrong_9 (by decide) ?_
    refine ev_reti dX7_sheetWrong_11 rfl (Nat.zero_le _) (Nat.zero_le _) ?_
    refine ⟨?_, rfl⟩
    simp [s_wr, am_inF (by omega) h1r]

