/-! the reference: sets of questions, answers, evenings, jokers, who joins, leaves -/
set_option maxHeartbeats 400000 in
set_option maxRecDepth 100000 in
theorem c_X7_rightOf (G : am_G) (D : Nat) (A : am_S) (σ : am_M) (hA : wf_A A) (hI : iv_M A σ) (T : Nat) : am_Mt G (D + 6) mX7_rightOf [.ref 65, .int (nI T)] σ 0 0 (am_qM A (.int (nI (s_rs A T))) σ) := by
  have b7 := wf_np7 hA
  have b8 := wf_nq8 hA
  have b6 := wf_nt6 hA
  have b61 := wf_nt1 hA
  have b160 := wf_tp160 hA
  have brl := wf_rlt hA
  refine am_of moX7_rightOf (Nat.le_of_ble_eq_true rfl) ?_
  show am_Ev G mX7_rightOf (am_R (D + 6) 0 0) 0 0 (am_qM A (.int (nI (s_rs A T))) σ) 0 [(0, .ref 65), (1, .int (nI T))] [] σ 0 0
  have lp : ∀ (f : Nat) (q : Nat) (σ1 : am_M), (q ≤ s_nq A) → (iv_M A σ1) → (fr_M σ σ1) → s_nq A - q < f → am_Ev G mX7_rightOf (am_R (D + 6) 0 0) 0 0 (am_qM A (.int (nI (s_rs A T))) σ) 4 [(0, .ref 65), (1, .int (nI T)), (2, .int (nI (mk_m (s_rt A (s_se A T)) q))), (3, .int (nI q))] [] σ1 0 0 := by
    intro f
    induction f with
    | zero => intro q σ1 hq hI hF hf; exact absurd hf (Nat.not_lt_zero _)
    | succ f ih =>
      intro q σ1 hq hI hF hf
      refine ev_iload_n dX7_rightOf_4 rfl rfl ?_
      refine ev_aload_n dX7_rightOf_5 rfl rfl ?_
      refine ev_getI (v := nI (s_nq A)) dX7_rightOf_6 fl_X7_94 (ly_k hI.ly 65 rfl) ((hI.rd 65 6 rfl).trans (wf_nq hA)) ?_
      refine ev_icmp_ge (tgt := 37) dX7_rightOf_9 (by decide) (fun c1 => ?_) (fun c1 => ?_)
      · skip
        have c1n : (s_nq A) ≤ q := (nI_leI (a := (s_nq A)) (b := q) (by omega) (by omega)).mp c1
        refine ev_iload_n dX7_rightOf_37 rfl rfl ?_
        refine ev_reti dX7_rightOf_38 rfl (Nat.zero_le _) (Nat.zero_le _) ?_
        have e : q = s_nq A := by omega
        subst e
        exact ⟨rfl, hI, hF⟩
      · skip
        have c1n : ¬ (s_nq A) ≤ q := fun zz => c1 ((nI_leI (a := (s_nq A)) (b := q) (by omega) (by omega)).mpr zz)
        refine ev_iload_n dX7_rightOf_12 rfl rfl ?_
        refine ev_aload_n dX7_rightOf_13 rfl rfl ?_
        refine ev_iload_n dX7_rightOf_14 rfl rfl ?_
        refine ev_iload_n dX7_rightOf_15 rfl rfl ?_
        refine ev_callV (as := [.int (nI T), .int (nI q)]) (st := [.int (nI (mk_m (s_rt A (s_se A T)) q))]) dX7_rightOf_16 mfX7_isRight lk_X7_202 (ly_k hI.ly 65 rfl) (by decide) rfl (c_X7_isRight G D A σ1 hA hI T q (by omega)) rfl rfl (Nat.le_of_ble_eq_true rfl) (am_hR (by omega) (by decide)) ⟨Nat.le_refl _, Nat.le_refl _⟩ ?_
        rintro _ σ2 (⟨h2, rfl, hI2, hF2⟩ | ⟨h2, rfl, hI2, hF2⟩)
        · skip
          refine ev_if_eq (tgt := 28) dX7_rightOf_19 (by decide) (fun c => absurd c (by decide)) (fun _ => ?_)
          refine ev_iconst (v := 1) dX7_rightOf_22 (by decide) ?_
          refine ev_iload_n dX7_rightOf_23 rfl rfl ?_
          refine ev_ishl (v := nI (2 ^ q)) dX7_rightOf_24 (mk_1s (by omega)) ?_
          refine ev_goto (tgt := 29) dX7_rightOf_25 (by decide) ?_
          refine ev_ior (v := nI (mk_m (s_rt A (s_se A T)) (q + 1))) dX7_rightOf_29 ((fa_or _ _).trans (congrArg nI (mk_t h2))) ?_
          refine ev_istore_n (lv' := [(0, .ref 65), (1, .int (nI T)), (2, .int (nI (mk_m (s_rt A (s_se A T)) (q + 1)))), (3, .int (nI q))]) dX7_rightOf_30 rfl (by decide) rfl ?_
          refine ev_iinc (lv' := [(0, .ref 65), (1, .int (nI T)), (2, .int (nI (mk_m (s_rt A (s_se A T)) (q + 1)))), (3, .int (nI (q + 1)))]) (v := nI (q + 1)) dX7_rightOf_31 rfl (nI_1 _) (by decide) rfl ?_
          refine ev_goto (tgt := 4) dX7_rightOf_34 (by decide) ?_
          exact ih (q + 1) σ2 (by omega) hI2 (fr_M.tr hF hF2) (by omega)
        · skip
          refine ev_if_eq (tgt := 28) dX7_rightOf_19 (by decide) (fun _ => ?_) (fun c => absurd (by decide) c)
          refine ev_iconst (v := 0) dX7_rightOf_28 (by decide) ?_
          refine ev_ior (v := nI (mk_m (s_rt A (s_se A T)) (q + 1))) dX7_rightOf_29 ((mk_0 _).trans (congrArg nI (mk_f (Bool.eq_false_iff.mpr h2)))) ?_
          refine ev_istore_n (lv' := [(0, .ref 65), (1, .int (nI T)), (2, .int (nI (mk_m (s_rt A (s_se A T)) (q + 1)))), (3, .int (nI q))]) dX7_rightOf_30 rfl (by decide) rfl ?_
          refine ev_iinc (lv' := [(0, .ref 65), (1, .int (nI T)), (2, .int (nI (mk_m (s_rt A (s_se A T)) (q + 1)))), (3, .int (nI (q + 1)))]) (v := nI (q + 1)) dX7_rightOf_31 rfl (nI_1 _) (by decide) rfl ?_
          refine ev_goto (tgt := 4) dX7_rightOf_34 (by decide) ?_
          exact ih (q + 1) σ2 (by omega) hI2 (fr_M.tr hF hF2) (by omega)
  refine ev_iconst (v := 0) dX7_rightOf_0 (by decide) ?_
  refine ev_istore_n (lv' := [(0, .ref 65), (1, .int (nI T)), (2, .int 0)]) dX7_rightOf_1 rfl (by decide) rfl ?_
  refine ev_iconst (v := 0) dX7_rightOf_2 (by decide) ?_
  refine ev_istore_n (lv' := [(0, .ref 65), (1, .int (nI T)), (2, .int 0), (3, .int 0)]) dX7_rightOf_3 rfl (by decide) rfl ?_
  exact lp _ 0 σ (by omega) hI fr_M.rf (Nat.lt_succ_self _)

set_option maxHeartbeats 400000 in
set_option maxRecDepth 100000 in
theorem c_X7_missed (G : am_G) (D : Nat) (A : am_S) (σ : am_M) (hA : wf_A A) (hI : iv_M A σ) (T : Nat) : am_Mt G (D + 6) mX7_missed [.ref 65, .int (nI T)] σ 0 0 (am_qM A (.int (nI (s_ms A T))) σ) := by
  have b7 := wf_np7 hA
  have b8 := wf_nq8 hA
  have b6 := wf_nt6 hA
  have b61 := wf_nt1 hA
  have b160 := wf_tp160 hA
  have brl := wf_rlt hA
  refine am_of moX7_missed (Nat.le_of_ble_eq_true rfl) ?_
  show am_Ev G mX7_missed (am_R (D + 6) 0 0) 0 0 (am_qM A (.int (nI (s_ms A T))) σ) 0 [(0, .ref 65), (1, .int (nI T))] [] σ 0 0
  have lp : ∀ (f : Nat) (q : Nat) (σ1 : am_M), (q ≤ s_nq A) → (iv_M A σ1) → (fr_M σ σ1) → s_nq A - q < f → am_Ev G mX7_missed (am_R (D + 6) 0 0) 0 0 (am_qM A (.int (nI (s_ms A T))) σ) 4 [(0, .ref 65), (1, .int (nI T)), (2, .int (nI (mk_m (fun q => !s_rt A (s_se A T) q && decide (s_kg A T q ≠ 0)) q))), (3, .int (nI q))] [] σ1 0 0 := by
    intro f
    induction f with
    | zero => intro q σ1 hq hI hF hf; exact absurd hf (Nat.not_lt_zero _)
    | succ f ih =>
      intro q σ1 hq hI hF hf
      refine ev_iload_n dX7_missed_4 rfl rfl ?_
      refine ev_aload_n dX7_missed_5 rfl rfl ?_
      refine ev_getI (v := nI (s_nq A)) dX7_missed_6 fl_X7_94 (ly_k hI.ly 65 rfl) ((hI.rd 65 6 rfl).trans (wf_nq hA)) ?_
      refine ev_icmp_ge (tgt := 46) dX7_missed_9 (by decide) (fun c1 => ?_) (fun c1 => ?_)
      · skip
        have c1n : (s_nq A) ≤ q := (nI_leI (a := (s_nq A)) (b := q) (by omega) (by omega)).mp c1
        refine ev_iload_n dX7_missed_46 rfl rfl ?_
        refine ev_reti dX7_missed_47 rfl (Nat.zero_le _) (Nat.zero_le _) ?_
        have e : q = s_nq A := by omega
        subst e
        exact ⟨rfl, hI, hF⟩
      · skip
        have c1n : ¬ (s_nq A) ≤ q := fun zz => c1 ((nI_leI (a := (s_nq A)) (b := q) (by omega) (by omega)).mpr zz)
        refine ev_iload_n dX7_missed_12 rfl rfl ?_
        refine ev_aload_n dX7_missed_13 rfl rfl ?_
        refine ev_iload_n dX7_missed_14 rfl rfl ?_
        refine ev_iload_n dX7_missed_15 rfl rfl ?_
        refine ev_callV (as := [.int (nI T), .int (nI q)]) (st := [.int (nI (mk_m (fun q => !s_rt A (s_se A T) q && decide (s_kg A T q ≠ 0)) q))]) dX7_missed_16 mfX7_isRight lk_X7_202 (ly_k hI.ly 65 rfl) (by decide) rfl (c_X7_isRight G D A σ1 hA hI T q (by omega)) rfl rfl (Nat.le_of_ble_eq_true rfl) (am_hR (by omega) (by decide)) ⟨Nat.le_refl _, Nat.le_refl _⟩ ?_
        rintro _ σ2 (⟨h2, rfl, hI2, hF2⟩ | ⟨h2, rfl, hI2, hF2⟩)
        · skip
          refine ev_if_ne (tgt := 37) dX7_missed_19 (by decide) (fun _ => ?_) (fun c => absurd c (by decide))
          refine ev_iconst (v := 0) dX7_missed_37 (by decide) ?_
          refine ev_ior (v := nI (mk_m (fun q => !s_rt A (s_se A T) q && decide (s_kg A T q ≠ 0)) (q + 1))) dX7_missed_38 ((mk_0 _).trans (congrArg nI (mk_f (by show (!_ && _) = false; rw [h2]; rfl)))) ?_
          refine ev_istore_n (lv' := [(0, .ref 65), (1, .int (nI T)), (2, .int (nI (mk_m (fun q => !s_rt A (s_se A T) q && decide (s_kg A T q ≠ 0)) (q + 1)))), (3, .int (nI q))]) dX7_missed_39 rfl (by decide) rfl ?_
          refine ev_iinc (lv' := [(0, .ref 65), (1, .int (nI T)), (2, .int (nI (mk_m (fun q => !s_rt A (s_se A T) q && decide (s_kg A T q ≠ 0)) (q + 1)))), (3, .int (nI (q + 1)))]) (v := nI (q + 1)) dX7_missed_40 rfl (nI_1 _) (by decide) rfl ?_
          refine ev_goto (tgt := 4) dX7_missed_43 (by decide) ?_
          exact ih (q + 1) σ2 (by omega) hI2 (fr_M.tr hF hF2) (by omega)
        · skip
          refine ev_if_ne (tgt := 37) dX7_missed_19 (by decide) (fun c => absurd (by decide) c) (fun _ => ?_)
          refine ev_aload_n dX7_missed_22 rfl rfl ?_
          refine ev_iload_n dX7_missed_23 rfl rfl ?_
          refine ev_iload_n dX7_missed_24 rfl rfl ?_
          refine ev_callV (as := [.int (nI T), .int (nI q)]) (st := [.int (nI (mk_m (fun q => !s_rt A (s_se A T) q && decide (s_kg A T q ≠ 0)) q))]) dX7_missed_25 mfX7_knowing lk_X7_205 (ly_k hI2.ly 65 rfl) (by decide) rfl (c_X7_knowing G (D + 2) A σ2 hA hI2 T q (by omega)) rfl rfl (Nat.le_of_ble_eq_true rfl) (am_hR (by omega) (by decide)) ⟨Nat.le_refl _, Nat.le_refl _⟩ ?_
          rintro _ _ ⟨rfl, rfl⟩
          have hkg : s_kg A T q < 2 ^ 31 := mk_31 (by omega)
          refine ev_if_eq (tgt := 37) dX7_missed_28 (by decide) (fun c3 => ?_) (fun c3 => ?_)
          · skip
            have c3n : (s_kg A T q) = 0 := (nI_eq (a := (s_kg A T q)) (b := 0) (by omega) (by omega)).mp c3
            refine ev_iconst (v := 0) dX7_missed_37 (by decide) ?_
            refine ev_ior (v := nI (mk_m (fun q => !s_rt A (s_se A T) q && decide (s_kg A T q ≠ 0)) (q + 1))) dX7_missed_38 ((mk_0 _).trans (congrArg nI (mk_f (by show (!_ && _) = false; rw [decide_eq_false (fun z => z c3n), Bool.and_false])))) ?_
            refine ev_istore_n (lv' := [(0, .ref 65), (1, .int (nI T)), (2, .int (nI (mk_m (fun q => !s_rt A (s_se A T) q && decide (s_kg A T q ≠ 0)) (q + 1)))), (3, .int (nI q))]) dX7_missed_39 rfl (by decide) rfl ?_
            refine ev_iinc (lv' := [(0, .ref 65), (1, .int (nI T)), (2, .int (nI (mk_m (fun q => !s_rt A (s_se A T) q && decide (s_kg A T q ≠ 0)) (q + 1)))), (3, .int (nI (q + 1)))]) (v := nI (q + 1)) dX7_missed_40 rfl (nI_1 _) (by decide) rfl ?_
            refine ev_goto (tgt := 4) dX7_missed_43 (by decide) ?_
            exact ih (q + 1) σ2 (by omega) hI2 (fr_M.tr hF hF2) (by omega)
          · skip
            have c3n : ¬ (s_kg A T q) = 0 := fun zz => c3 ((nI_eq (a := (s_kg A T q)) (b := 0) (by omega) (by omega)).mpr zz)
            refine ev_iconst (v := 1) dX7_missed_31 (by decide) ?_
            refine ev_iload_n dX7_missed_32 rfl rfl ?_
            refine ev_ishl (v := nI (2 ^ q)) dX7_missed_33 (mk_1s (by omega)) ?_
            refine ev_goto (tgt := 38) dX7_missed_34 (by decide) ?_
            refine ev_ior (v := nI (mk_m (fun q => !s_rt A (s_se A T) q && decide (s_kg A T q ≠ 0)) (q + 1))) dX7_missed_38 ((fa_or _ _).trans (congrArg nI (mk_t (by show (!_ && _) = true; rw [Bool.eq_false_iff.mpr h2, decide_eq_true c3n]; rfl)))) ?_
            refine ev_istore_n (lv' := [(0, .ref 65), (1, .int (nI T)), (2, .int (nI (mk_m (fun q => !s_rt A (s_se A T) q && decide (s_kg A T q ≠ 0)) (q + 1)))), (3, .int (nI q))]) dX7_missed_39 rfl (by decide) rfl ?_
            refine ev_iinc (lv' := [(0, .ref 65), (1, .int (nI T)), (2, .int (nI (mk_m (fun q => !s_rt A (s_se A T) q && decide (s_kg A T q ≠ 0)) (q + 1)))), (3, .int (nI (q + 1)))]) (v := nI (q + 1)) dX7_missed_40 rfl (nI_1 _) (by decide) rfl ?_
            refine ev_goto (tgt := 4) dX7_missed_43 (by decide) ?_
            exact ih (q + 1) σ2 (by omega) hI2 (fr_M.tr hF hF2) (by omega)
  refine ev_iconst (v := 0) dX7_missed_0 (by decide) ?_
  refine ev_istore_n (lv' := [(0, .ref 65), (1, .int (nI T)), (2, .int 0)]) dX7_missed_1 rfl (by decide) rfl ?_
  refine ev_iconst (v := 0) dX7_missed_2 (by decide) ?_
  refine ev_istore_n (lv' := [(0, .ref 65), (1, .int (nI T)), (2, .int 0), (3, .int 0)]) dX7_missed_3 rfl (by decide) rfl ?_
  exact lp _ 0 σ (by omega) hI fr_M.rf (Nat.lt_succ_self _)

theorem am_w2 {w : Int32} (h : ¬ am_rg w 3) : w ≠ 0 ∧ w ≠ 1 ∧ w ≠ 2 := ⟨fun e => h ⟨0, by decide, e⟩, fun e => h ⟨1, by decide, e⟩, fun e => h ⟨2, by decide, e⟩⟩
theorem am_w1 {w : Int32} (h : ¬ am_rg w 2) : w ≠ 0 ∧ w ≠ 1 := ⟨fun e => h ⟨0, by decide, e⟩, fun e => h ⟨1, by decide, e⟩⟩
theorem am_v2 {w : Int32} (h : 0 ≤ w ∧ w ≤ 2) : w = 0 ∨ w = 1 ∨ w = 2 := by
  obtain ⟨j, hj, rfl⟩ := (am_rgl (n := 3) (by decide)).mp h
  rcases (show j = 0 ∨ j = 1 ∨ j = 2 by omega) with rfl | rfl | rfl
  · exact Or.inl rfl
  · exact Or.inr (Or.inl rfl)
  · exact Or.inr (Or.inr rfl)
theorem am_v1 {w : Int32} (h : 0 ≤ w ∧ w ≤ 1) : w = 0 ∨ w = 1 := by
  obtain ⟨j, hj, rfl⟩ := (am_rgl (n := 2) (by decide)).mp h
  rcases (show j = 0 ∨ j = 1 by omega) with rfl | rfl
  · exact Or.inl rfl
  · exact Or.inr rfl
set_option maxHeartbeats 400000 in
set_option maxRecDepth 100000 in
theorem c_X7_score (G : am_G) (D : Nat) (A : am_S) (σ : am_M) (hA : wf_A A) (hI : iv_M A σ) (t w : Int32) : am_Mt G (D + 9) mX7_score [.ref 65, .int t, .int w] σ 0 0 (am_qM A (.int (sp_score A t w)) σ) := by
  have b7 := wf_np7 hA
  have b8 := wf_nq8 hA
  have b6 := wf_nt6 hA
  have b61 := wf_nt1 hA
  have b160 := wf_tp160 hA
  have brl := wf_rlt hA
  refine am_of moX7_score (Nat.le_of_ble_eq_true rfl) ?_
  show am_Ev G mX7_score (am_R (D + 9) 0 0) 0 0 (am_qM A (.int (sp_score A t w)) σ) 0 [(0, .ref 65), (1, .int t), (2, .int w)] [] σ 0 0
  refine ev_iload_n dX7_score_0 rfl rfl ?_
  refine ev_callS (as := [.int t]) (st := []) dX7_score_1 mfX7_isTable lk_X7_183 (c_X7_isTable G (D + 7) σ t) rfl rfl (Nat.le_of_ble_eq_true rfl) (am_hR (by omega) (by decide)) ⟨Nat.le_refl _, Nat.le_refl _⟩ ?_
  rintro _ _ (⟨⟨j1, h1, rfl⟩, rfl, rfl⟩ | ⟨h1, rfl, rfl⟩)
  · skip
    refine ev_if_ne (tgt := 10) dX7_score_4 (by decide) (fun _ => ?_) (fun c => absurd c (by decide))
    refine ev_iload_n dX7_score_10 rfl rfl ?_
    refine ev_iconst (v := 0) dX7_score_11 (by decide) ?_
    refine ev_iconst (v := 2) dX7_score_12 (by decide) ?_
    refine ev_callS (as := [.int w, .int 0, .int 2]) (st := []) dX7_score_13 mfX7_in lk_X7_90 (c_X7_in G (D + 8) σ w 0 2) rfl rfl (Nat.le_of_ble_eq_true rfl) (am_hR (by omega) (by decide)) ⟨Nat.le_refl _, Nat.le_refl _⟩ ?_
    rintro _ _ (⟨h2, rfl, rfl⟩ | ⟨h2, rfl, rfl⟩)
    · skip
      rcases am_v2 h2 with rfl | rfl | rfl
      · skip
        refine ev_if_ne (tgt := 22) dX7_score_16 (by decide) (fun _ => ?_) (fun c => absurd c (by decide))
        refine ev_iload_n dX7_score_22 rfl rfl ?_
        refine ev_if_ne (tgt := 34) dX7_score_23 (by decide) (fun c => absurd (by decide) c) (fun _ => ?_)
        refine ev_aload_n dX7_score_26 rfl rfl ?_
        refine ev_iload_n dX7_score_27 rfl rfl ?_
        refine ev_callV (as := [.int (nI j1)]) (st := []) dX7_score_28 mfX7_scoreNow lk_X7_217 (ly_k hI.ly 65 rfl) (by decide) rfl (c_X7_scoreNow G D A σ hA hI j1 (by omega)) rfl rfl (Nat.le_of_ble_eq_true rfl) (am_hR (by omega) (by decide)) ⟨Nat.le_refl _, Nat.le_refl _⟩ ?_
        rintro _ σ3 ⟨rfl, hI3, hF3⟩
        refine ev_goto (tgt := 52) dX7_score_31 (by decide) ?_
        refine ev_reti dX7_score_52 rfl (Nat.zero_le _) (Nat.zero_le _) ?_
        refine ⟨?_, hI3, (fr_M.tr fr_M.rf hF3)⟩
        simp [sp_score, am_inN h1 (by omega), sN_n (show j1 < 2 ^ 31 by omega)]
      · skip
        refine ev_if_ne (tgt := 22) dX7_score_16 (by decide) (fun _ => ?_) (fun c => absurd c (by decide))
        refine ev_iload_n dX7_score_22 rfl rfl ?_
        refine ev_if_ne (tgt := 34) dX7_score_23 (by decide) (fun _ => ?_) (fun c => absurd c (by decide))
        refine ev_iload_n dX7_score_34 rfl rfl ?_
        refine ev_iconst (v := 1) dX7_score_35 (by decide) ?_
        refine ev_icmp_ne (tgt := 47) dX7_score_36 (by decide) (fun c => absurd (by decide) c) (fun _ => ?_)
        refine ev_aload_n dX7_score_39 rfl rfl ?_
        refine ev_iload_n dX7_score_40 rfl rfl ?_
        refine ev_callV (as := [.int (nI j1)]) (st := []) dX7_score_41 mfX7_rightOf lk_X7_220 (ly_k hI.ly 65 rfl) (by decide) rfl (c_X7_rightOf G (D + 2) A σ hA hI j1) rfl rfl (Nat.le_of_ble_eq_true rfl) (am_hR (by omega) (by decide)) ⟨Nat.le_refl _, Nat.le_refl _⟩ ?_
        rintro _ σ4 ⟨rfl, hI4, hF4⟩
        refine ev_goto (tgt := 52) dX7_score_44 (by decide) ?_
        refine ev_reti dX7_score_52 rfl (Nat.zero_le _) (Nat.zero_le _) ?_
        refine ⟨?_, hI4, (fr_M.tr fr_M.rf hF4)⟩
        simp [sp_score, am_inN h1 (by omega), sN_n (show j1 < 2 ^ 31 by omega)]
      · skip
        refine ev_if_ne (tgt := 22) dX7_score_16 (by decide) (fun _ => ?_) (fun c => absurd c (by decide))
        refine ev_iload_n dX7_score_22 rfl rfl ?_
        refine ev_if_ne (tgt := 34) dX7_score_23 (by decide) (fun _ => ?_) (fun c => absurd c (by decide))
        refine ev_iload_n dX7_score_34 rfl rfl ?_
        refine ev_iconst (v := 1) dX7_score_35 (by decide) ?_
        refine ev_icmp_ne (tgt := 47) dX7_score_36 (by decide) (fun _ => ?_) (fun c => absurd c (by decide))
        refine ev_aload_n dX7_score_47 rfl rfl ?_
        refine ev_iload_n dX7_score_48 rfl rfl ?_
        refine ev_callV (as := [.int (nI j1)]) (st := []) dX7_score_49 mfX7_missed lk_X7_223 (ly_k hI.ly 65 rfl) (by decide) rfl (c_X7_missed G (D + 2) A σ hA hI j1) rfl rfl (Nat.le_of_ble_eq_true rfl) (am_hR (by omega) (by decide)) ⟨Nat.le_refl _, Nat.le_refl _⟩ ?_
        rintro _ σ5 ⟨rfl, hI5, hF5⟩
        refine ev_reti dX7_score_52 rfl (Nat.zero_le _) (Nat.zero_le _) ?_
        refine ⟨?_, hI5, (fr_M.tr fr_M.rf hF5)⟩
        simp [sp_score, am_inN h1 (by omega), sN_n (show j1 < 2 ^ 31 by omega)]
    · skip
      have h2r := fun q => h2 ((am_rgl (n := 3) (by decide)).mpr q)
      have hw0 := am_w2 h2r
      refine ev_if_ne (tgt := 22) dX7_score_16 (by decide) (fun c => absurd (by decide) c) (fun _ => ?_)
      refine ev_bipush (v := (-7)) dX7_score_19 (by decide) ?_
      refine ev_reti dX7_score_21 rfl (Nat.zero_le _) (Nat.zero_le _) ?_
      refine ⟨?_, hI, fr_M.rf⟩
      simp [sp_score, am_inN h1 (by omega), sN_n (show j1 < 2 ^ 31 by omega), hw0]
  · skip
    refine ev_if_ne (tgt := 10) dX7_score_4 (by decide) (fun c => absurd (by decide) c) (fun _ => ?_)
    refine ev_bipush (v := (-5)) dX7_score_7 (by decide) ?_
    refine ev_reti dX7_score_9 rfl (Nat.zero_le _) (Nat.zero_le _) ?_
    refine ⟨?_, hI, fr_M.rf⟩
    simp [sp_score, am_inF (by omega) h1]

set_option maxHeartbeats 400000 in
set_option maxRecDepth 100000 in
theorem c_X7_answer (G : am_G) (D : Nat) (A : am_S) (σ : am_M) (hA : wf_A A) (hI : iv_M A σ) (t q w : Int32) : am_Mt G (D + 6) mX7_answer [.ref 65, .int t, .int q, .int w] σ 0 0 (am_qM A (.int (sp_answer A t q w)) σ) := by
  have b7 := wf_np7 hA
  have b8 := wf_nq8 hA
  have b6 := wf_nt6 hA
  have b61 := wf_nt1 hA
  have b160 := wf_tp160 hA
  have brl := wf_rlt hA
  refine am_of moX7_answer (Nat.le_of_ble_eq_true rfl) ?_
  show am_Ev G mX7_answer (am_R (D + 6) 0 0) 0 0 (am_qM A (.int (sp_answer A t q w)) σ) 0 [(0, .ref 65), (1, .int t), (2, .int q), (3, .int w)] [] σ 0 0
  refine ev_iload_n dX7_answer_0 rfl rfl ?_
  refine ev_callS (as := [.int t]) (st := []) dX7_answer_1 mfX7_isTable lk_X7_183 (c_X7_isTable G (D + 4) σ t) rfl rfl (Nat.le_of_ble_eq_true rfl) (am_hR (by omega) (by decide)) ⟨Nat.le_refl _, Nat.le_refl _⟩ ?_
  rintro _ _ (⟨⟨j1, h1, rfl⟩, rfl, rfl⟩ | ⟨h1, rfl, rfl⟩)
  · skip
    refine ev_if_eq (tgt := 15) dX7_answer_4 (by decide) (fun c => absurd c (by decide)) (fun _ => ?_)
    refine ev_aload_n dX7_answer_7 rfl rfl ?_
    refine ev_iload_n dX7_answer_8 rfl rfl ?_
    refine ev_callV (as := [.int q]) (st := []) dX7_answer_9 mfX7_isQuestion lk_X7_180 (ly_k hI.ly 65 rfl) (by decide) rfl (c_X7_isQuestion G (D + 4) A σ hA hI q) rfl rfl (Nat.le_of_ble_eq_true rfl) (am_hR (by omega) (by decide)) ⟨Nat.le_refl _, Nat.le_refl _⟩ ?_
    rintro _ _ (⟨⟨j2, h2, rfl⟩, rfl, rfl⟩ | ⟨h2, rfl, rfl⟩)
    · skip
      refine ev_if_ne (tgt := 18) dX7_answer_12 (by decide) (fun _ => ?_) (fun c => absurd c (by decide))
      refine ev_iload_n dX7_answer_18 rfl rfl ?_
      refine ev_iconst (v := 0) dX7_answer_19 (by decide) ?_
      refine ev_iconst (v := 2) dX7_answer_20 (by decide) ?_
      refine ev_callS (as := [.int w, .int 0, .int 2]) (st := []) dX7_answer_21 mfX7_in lk_X7_90 (c_X7_in G (D + 5) σ w 0 2) rfl rfl (Nat.le_of_ble_eq_true rfl) (am_hR (by omega) (by decide)) ⟨Nat.le_refl _, Nat.le_refl _⟩ ?_
      rintro _ _ (⟨h3, rfl, rfl⟩ | ⟨h3, rfl, rfl⟩)
      · skip
        rcases am_v2 h3 with rfl | rfl | rfl
        · skip
          refine ev_if_ne (tgt := 30) dX7_answer_24 (by decide) (fun _ => ?_) (fun c => absurd c (by decide))
          refine ev_iload_n dX7_answer_30 rfl rfl ?_
          refine ev_if_ne (tgt := 43) dX7_answer_31 (by decide) (fun c => absurd (by decide) c) (fun _ => ?_)
          refine ev_aload_n dX7_answer_34 rfl rfl ?_
          refine ev_iload_n dX7_answer_35 rfl rfl ?_
          refine ev_iload_n dX7_answer_36 rfl rfl ?_
          refine ev_callV (as := [.int (nI j1), .int (nI j2)]) (st := []) dX7_answer_37 mfX7_believed lk_X7_195 (ly_k hI.ly 65 rfl) (by decide) rfl (c_X7_believed G (D + 1) A σ hA hI j1 j2 (by omega)) rfl rfl (Nat.le_of_ble_eq_true rfl) (am_hR (by omega) (by decide)) ⟨Nat.le_refl _, Nat.le_refl _⟩ ?_
          rintro _ σ4 ⟨rfl, hI4, hF4⟩
          refine ev_goto (tgt := 71) dX7_answer_40 (by decide) ?_
          refine ev_reti dX7_answer_71 rfl (Nat.zero_le _) (Nat.zero_le _) ?_
          refine ⟨?_, hI4, (fr_M.tr fr_M.rf hF4)⟩
          simp [sp_answer, am_inN h1 (by omega), sN_n (show j1 < 2 ^ 31 by omega), am_inN h2 (by omega), sN_n (show j2 < 2 ^ 31 by omega)]
        · skip
          refine ev_if_ne (tgt := 30) dX7_answer_24 (by decide) (fun _ => ?_) (fun c => absurd c (by decide))
          refine ev_iload_n dX7_answer_30 rfl rfl ?_
          refine ev_if_ne (tgt := 43) dX7_answer_31 (by decide) (fun _ => ?_) (fun c => absurd c (by decide))
          refine ev_iload_n dX7_answer_43 rfl rfl ?_
          refine ev_iconst (v := 1) dX7_answer_44 (by decide) ?_
          refine ev_icmp_ne (tgt := 65) dX7_answer_45 (by decide) (fun c => absurd (by decide) c) (fun _ => ?_)
          refine ev_aload_n dX7_answer_48 rfl rfl ?_
          refine ev_iload_n dX7_answer_49 rfl rfl ?_
          refine ev_iload_n dX7_answer_50 rfl rfl ?_
          refine ev_callV (as := [.int (nI j1), .int (nI j2)]) (st := []) dX7_answer_51 mfX7_isRight lk_X7_202 (ly_k hI.ly 65 rfl) (by decide) rfl (c_X7_isRight G D A σ hA hI j1 j2 (by omega)) rfl rfl (Nat.le_of_ble_eq_true rfl) (am_hR (by omega) (by decide)) ⟨Nat.le_refl _, Nat.le_refl _⟩ ?_
          rintro _ σ5 (⟨h5, rfl, hI5, hF5⟩ | ⟨h5, rfl, hI5, hF5⟩)
          · skip
            refine ev_if_eq (tgt := 61) dX7_answer_54 (by decide) (fun c => absurd c (by decide)) (fun _ => ?_)
            refine ev_iconst (v := 1) dX7_answer_57 (by decide) ?_
            refine ev_goto (tgt := 71) dX7_answer_58 (by decide) ?_
            refine ev_reti dX7_answer_71 rfl (Nat.zero_le _) (Nat.zero_le _) ?_
            refine ⟨?_, hI5, (fr_M.tr fr_M.rf hF5)⟩
            simp [sp_answer, am_inN h1 (by omega), sN_n (show j1 < 2 ^ 31 by omega), am_inN h2 (by omega), sN_n (show j2 < 2 ^ 31 by omega), h5]
          · skip
            refine ev_if_eq (tgt := 61) dX7_answer_54 (by decide) (fun _ => ?_) (fun c => absurd (by decide) c)
            refine ev_iconst (v := 0) dX7_answer_61 (by decide) ?_
            refine ev_goto (tgt := 71) dX7_answer_62 (by decide) ?_
            refine ev_reti dX7_answer_71 rfl (Nat.zero_le _) (Nat.zero_le _) ?_
            refine ⟨?_, hI5, (fr_M.tr fr_M.rf hF5)⟩
            simp [sp_answer, am_inN h1 (by omega), sN_n (show j1 < 2 ^ 31 by omega), am_inN h2 (by omega), sN_n (show j2 < 2 ^ 31 by omega), h5]
        · skip
          refine ev_if_ne (tgt := 30) dX7_answer_24 (by decide) (fun _ => ?_) (fun c => absurd c (by decide))
          refine ev_iload_n dX7_answer_30 rfl rfl ?_
          refine ev_if_ne (tgt := 43) dX7_answer_31 (by decide) (fun _ => ?_) (fun c => absurd c (by decide))
          refine ev_iload_n dX7_answer_43 rfl rfl ?_
          refine ev_iconst (v := 1) dX7_answer_44 (by decide) ?_
          refine ev_icmp_ne (tgt := 65) dX7_answer_45 (by decide) (fun _ => ?_) (fun c => absurd c (by decide))
          refine ev_aload_n dX7_answer_65 rfl rfl ?_
          refine ev_iload_n dX7_answer_66 rfl rfl ?_
          refine ev_iload_n dX7_answer_67 rfl rfl ?_
          refine ev_callV (as := [.int (nI j1), .int (nI j2)]) (st := []) dX7_answer_68 mfX7_knowing lk_X7_205 (ly_k hI.ly 65 rfl) (by decide) rfl (c_X7_knowing G (D + 2) A σ hA hI j1 j2 (by omega)) rfl rfl (Nat.le_of_ble_eq_true rfl) (am_hR (by omega) (by decide)) ⟨Nat.le_refl _, Nat.le_refl _⟩ ?_
          rintro _ _ ⟨rfl, rfl⟩
          refine ev_reti dX7_answer_71 rfl (Nat.zero_le _) (Nat.zero_le _) ?_
          refine ⟨?_, hI, fr_M.rf⟩
          simp [sp_answer, am_inN h1 (by omega), sN_n (show j1 < 2 ^ 31 by omega), am_inN h2 (by omega), sN_n (show j2 < 2 ^ 31 by omega)]
      · skip
        have h3r := fun q => h3 ((am_rgl (n := 3) (by decide)).mpr q)
        have hw0 := am_w2 h3r
        refine ev_if_ne (tgt := 30) dX7_answer_24 (by decide) (fun c => absurd (by decide) c) (fun _ => ?_)
        refine ev_bipush (v := (-7)) dX7_answer_27 (by decide) ?_
        refine ev_reti dX7_answer_29 rfl (Nat.zero_le _) (Nat.zero_le _) ?_
        refine ⟨?_, hI, fr_M.rf⟩
        simp [sp_answer, am_inN h1 (by omega), sN_n (show j1 < 2 ^ 31 by omega), am_inN h2 (by omega), sN_n (show j2 < 2 ^ 31 by omega), hw0]
    · skip
      refine ev_if_ne (tgt := 18) dX7_answer_12 (by decide) (fun c => absurd (by decide) c) (fun _ => ?_)
      refine ev_bipush (v := (-5)) dX7_answer_15 (by decide) ?_
      refine ev_reti dX7_answer_17 rfl (Nat.zero_le _) (Nat.zero_le _) ?_
      refine ⟨?_, hI, fr_M.rf⟩
      simp [sp_answer, am_inN h1 (by omega), sN_n (show j1 < 2 ^ 31 by omega), am_inF (by omega) h2]
  · skip
    refine ev_if_eq (tgt := 15) dX7_answer_4 (by decide) (fun _ => ?_) (fun c => absurd (by decide) c)
    refine ev_bipush (v := (-5)) dX7_answer_15 (by decide) ?_
    refine ev_reti dX7_answer_17 rfl (Nat.zero_le _) (Nat.zero_le _) ?_
    refine ⟨?_, hI, fr_M.rf⟩
    simp [sp_answer, am_inF (by omega) h1]

set_option maxHeartbeats 400000 in
set_option maxRecDepth 100000 in
theorem c_X7_winner (G : am_G) (D : Nat) (A : am_S) (σ : am_M) (hA : wf_A A) (hI : iv_M A σ)  : am_Mt G (D + 9) mX7_winner [.ref 65] σ 0 0 (am_qM A (.int (nI (s_wn A))) σ) := by
  have b7 := wf_np7 hA
  have b8 := wf_nq8 hA
  have b6 := wf_nt6 hA
  have b61 := wf_nt1 hA
  have b160 := wf_tp160 hA
  have brl := wf_rlt hA
  refine am_of moX7_winner (Nat.le_of_ble_eq_true rfl) ?_
  show am_Ev G mX7_winner (am_R (D + 9) 0 0) 0 0 (am_qM A (.int (nI (s_wn A))) σ) 0 [(0, .ref 65)] [] σ 0 0
  refine ev_iconst (v := 0) dX7_winner_0 (by decide) ?_
  refine ev_istore_n (lv' := [(0, .ref 65), (1, .int 0)]) dX7_winner_1 rfl (by decide) rfl ?_
  refine ev_iconst (v := 1) dX7_winner_2 (by decide) ?_
  refine ev_istore_n (lv' := [(0, .ref 65), (1, .int 0), (2, .int 1)]) dX7_winner_3 rfl (by decide) rfl ?_
  refine ev_iload_n dX7_winner_4 rfl rfl ?_
  refine ev_iconst (v := 3) dX7_winner_5 (by decide) ?_
  refine ev_icmp_ge (tgt := 34) dX7_winner_6 (by decide) (fun c => absurd c (by decide)) (fun _ => ?_)
  refine ev_aload_n dX7_winner_9 rfl rfl ?_
  refine ev_iload_n dX7_winner_10 rfl rfl ?_
  refine ev_callV (as := [.int 1]) (st := []) dX7_winner_11 mfX7_scoreNow lk_X7_217 (ly_k hI.ly 65 rfl) (by decide) rfl (c_X7_scoreNow G D A σ hA hI 1 (by omega)) rfl rfl (Nat.le_of_ble_eq_true rfl) (am_hR (by omega) (by decide)) ⟨Nat.le_refl _, Nat.le_refl _⟩ ?_
  rintro _ σ1 ⟨rfl, hI1, hF1⟩
  refine ev_aload_n dX7_winner_14 rfl rfl ?_
  refine ev_iload_n dX7_winner_15 rfl rfl ?_
  refine ev_callV (as := [.int 0]) (st := [.int (s_now A 1)]) dX7_winner_16 mfX7_scoreNow lk_X7_217 (ly_k hI1.ly 65 rfl) (by decide) rfl (c_X7_scoreNow G D A σ1 hA hI1 0 (by omega)) rfl rfl (Nat.le_of_ble_eq_true rfl) (am_hR (by omega) (by decide)) ⟨Nat.le_refl _, Nat.le_refl _⟩ ?_
  rintro _ σ2 ⟨rfl, hI2, hF2⟩
  refine ev_icmp_le (tgt := 26) dX7_winner_19 (by decide) (fun c3 => ?_) (fun c3 => ?_)
  · skip
    refine ev_iload_n dX7_winner_26 rfl rfl ?_
    refine ev_istore_n (lv' := [(0, .ref 65), (1, .int 0), (2, .int 1)]) dX7_winner_27 rfl (by decide) rfl ?_
    refine ev_iinc (lv' := [(0, .ref 65), (1, .int 0), (2, .int 2)]) (v := 2) dX7_winner_28 rfl (by decide) (by decide) rfl ?_
    refine ev_goto (tgt := 4) dX7_winner_31 (by decide) ?_
    refine ev_iload_n dX7_winner_4 rfl rfl ?_
    refine ev_iconst (v := 3) dX7_winner_5 (by decide) ?_
    refine ev_icmp_ge (tgt := 34) dX7_winner_6 (by decide) (fun c => absurd c (by decide)) (fun _ => ?_)
    refine ev_aload_n dX7_winner_9 rfl rfl ?_
    refine ev_iload_n dX7_winner_10 rfl rfl ?_
    refine ev_callV (as := [.int 2]) (st := []) dX7_winner_11 mfX7_scoreNow lk_X7_217 (ly_k hI2.ly 65 rfl) (by decide) rfl (c_X7_scoreNow G D A σ2 hA hI2 2 (by omega)) rfl rfl (Nat.le_of_ble_eq_true rfl) (am_hR (by omega) (by decide)) ⟨Nat.le_refl _, Nat.le_refl _⟩ ?_
    rintro _ σ4 ⟨rfl, hI4, hF4⟩
    refine ev_aload_n dX7_winner_14 rfl rfl ?_
    refine ev_iload_n dX7_winner_15 rfl rfl ?_
    refine ev_callV (as := [.int 0]) (st := [.int (s_now A 2)]) dX7_winner_16 mfX7_scoreNow lk_X7_217 (ly_k hI4.ly 65 rfl) (by decide) rfl (c_X7_scoreNow G D A σ4 hA hI4 0 (by omega)) rfl rfl (Nat.le_of_ble_eq_true rfl) (am_hR (by omega) (by decide)) ⟨Nat.le_refl _, Nat.le_refl _⟩ ?_
    rintro _ σ5 ⟨rfl, hI5, hF5⟩
    refine ev_icmp_le (tgt := 26) dX7_winner_19 (by decide) (fun c6 => ?_) (fun c6 => ?_)
    · skip
      refine ev_iload_n dX7_winner_26 rfl rfl ?_
      refine ev_istore_n (lv' := [(0, .ref 65), (1, .int 0), (2, .int 2)]) dX7_winner_27 rfl (by decide) rfl ?_
      refine ev_iinc (lv' := [(0, .ref 65), (1, .int 0), (2, .int 3)]) (v := 3) dX7_winner_28 rfl (by decide) (by decide) rfl ?_
      refine ev_goto (tgt := 4) dX7_winner_31 (by decide) ?_
      refine ev_iload_n dX7_winner_4 rfl rfl ?_
      refine ev_iconst (v := 3) dX7_winner_5 (by decide) ?_
      refine ev_icmp_ge (tgt := 34) dX7_winner_6 (by decide) (fun _ => ?_) (fun c => absurd (by decide) c)
      refine ev_iload_n dX7_winner_34 rfl rfl ?_
      refine ev_reti dX7_winner_35 rfl (Nat.zero_le _) (Nat.zero_le _) ?_
      exact ⟨by unfold s_wn; simp [c3, Int32.not_lt.mpr c3, c6, Int32.not_lt.mpr c6]; try rfl, hI5, (fr_M.tr (fr_M.tr (fr_M.tr (fr_M.tr fr_M.rf hF1) hF2) hF4) hF5)⟩
    · skip
      refine ev_iload_n dX7_winner_22 rfl rfl ?_
      refine ev_goto (tgt := 27) dX7_winner_23 (by decide) ?_
      refine ev_istore_n (lv' := [(0, .ref 65), (1, .int 2), (2, .int 2)]) dX7_winner_27 rfl (by decide) rfl ?_
      refine ev_iinc (lv' := [(0, .ref 65), (1, .int 2), (2, .int 3)]) (v := 3) dX7_winner_28 rfl (by decide) (by decide) rfl ?_
      refine ev_goto (tgt := 4) dX7_winner_31 (by decide) ?_
      refine ev_iload_n dX7_winner_4 rfl rfl ?_
      refine ev_iconst (v := 3) dX7_winner_5 (by decide) ?_
      refine ev_icmp_ge (tgt := 34) dX7_winner_6 (by decide) (fun _ => ?_) (fun c => absurd (by decide) c)
      refine ev_iload_n dX7_winner_34 rfl rfl ?_
      refine ev_reti dX7_winner_35 rfl (Nat.zero_le _) (Nat.zero_le _) ?_
      exact ⟨by unfold s_wn; simp [c3, Int32.not_lt.mpr c3, c6, Int32.not_le.mp c6]; try rfl, hI5, (fr_M.tr (fr_M.tr (fr_M.tr (fr_M.tr fr_M.rf hF1) hF2) hF4) hF5)⟩
  · skip
    refine ev_iload_n dX7_winner_22 rfl rfl ?_
    refine ev_goto (tgt := 27) dX7_winner_23 (by decide) ?_
    refine ev_istore_n (lv' := [(0, .ref 65), (1, .int 1), (2, .int 1)]) dX7_winner_27 rfl (by decide) rfl ?_
    refine ev_iinc (lv' := [(0, .ref 65), (1, .int 1), (2, .int 2)]) (v := 2) dX7_winner_28 rfl (by decide) (by decide) rfl ?_
    refine ev_goto (tgt := 4) dX7_winner_31 (by decide) ?_
    refine ev_iload_n dX7_winner_4 rfl rfl ?_
    refine ev_iconst (v := 3) dX7_winner_5 (by decide) ?_
    refine ev_icmp_ge (tgt := 34) dX7_winner_6 (by decide) (fun c => absurd c (by decide)) (fun _ => ?_)
    refine ev_aload_n dX7_winner_9 rfl rfl ?_
    refine ev_iload_n dX7_winner_10 rfl rfl ?_
    refine ev_callV (as := [.int 2]) (st := []) dX7_winner_11 mfX7_scoreNow lk_X7_217 (ly_k hI2.ly 65 rfl) (by decide) rfl (c_X7_scoreNow G D A σ2 hA hI2 2 (by omega)) rfl rfl (Nat.le_of_ble_eq_true rfl) (am_hR (by omega) (by decide)) ⟨Nat.le_refl _, Nat.le_refl _⟩ ?_
    rintro _ σ7 ⟨rfl, hI7, hF7⟩
    refine ev_aload_n dX7_winner_14 rfl rfl ?_
    refine ev_iload_n dX7_winner_15 rfl rfl ?_
    refine ev_callV (as := [.int 1]) (st := [.int (s_now A 2)]) dX7_winner_16 mfX7_scoreNow lk_X7_217 (ly_k hI7.ly 65 rfl) (by decide) rfl (c_X7_scoreNow G D A σ7 hA hI7 1 (by omega)) rfl rfl (Nat.le_of_ble_eq_true rfl) (am_hR (by omega) (by decide)) ⟨Nat.le_refl _, Nat.le_refl _⟩ ?_
    rintro _ σ8 ⟨rfl, hI8, hF8⟩
    refine ev_icmp_le (tgt := 26) dX7_winner_19 (by decide) (fun c9 => ?_) (fun c9 => ?_)
    · skip
      refine ev_iload_n dX7_winner_26 rfl rfl ?_
      refine ev_istore_n (lv' := [(0, .ref 65), (1, .int 1), (2, .int 2)]) dX7_winner_27 rfl (by decide) rfl ?_
      refine ev_iinc (lv' := [(0, .ref 65), (1, .int 1), (2, .int 3)]) (v := 3) dX7_winner_28 rfl (by decide) (by decide) rfl ?_
      refine ev_goto (tgt := 4) dX7_winner_31 (by decide) ?_
      refine ev_iload_n dX7_winner_4 rfl rfl ?_
      refine ev_iconst (v := 3) dX7_winner_5 (by decide) ?_
      refine ev_icmp_ge (tgt := 34) dX7_winner_6 (by decide) (fun _ => ?_) (fun c => absurd (by decide) c)
      refine ev_iload_n dX7_winner_34 rfl rfl ?_
      refine ev_reti dX7_winner_35 rfl (Nat.zero_le _) (Nat.zero_le _) ?_
      exact ⟨by unfold s_wn; simp [c3, Int32.not_le.mp c3, c9, Int32.not_lt.mpr c9]; try rfl, hI8, (fr_M.tr (fr_M.tr (fr_M.tr (fr_M.tr fr_M.rf hF1) hF2) hF7) hF8)⟩
    · skip
      refine ev_iload_n dX7_winner_22 rfl rfl ?_
      refine ev_goto (tgt := 27) dX7_winner_23 (by decide) ?_
      refine ev_istore_n (lv' := [(0, .ref 65), (1, .int 2), (2, .int 2)]) dX7_winner_27 rfl (by decide) rfl ?_
      refine ev_iinc (lv' := [(0, .ref 65), (1, .int 2), (2, .int 3)]) (v := 3) dX7_winner_28 rfl (by decide) (by decide) rfl ?_
      refine ev_goto (tgt := 4) dX7_winner_31 (by decide) ?_
      refine ev_iload_n dX7_winner_4 rfl rfl ?_
      refine ev_iconst (v := 3) dX7_winner_5 (by decide) ?_
      refine ev_icmp_ge (tgt := 34) dX7_winner_6 (by decide) (fun _ => ?_) (fun c => absurd (by decide) c)
      refine ev_iload_n dX7_winner_34 rfl rfl ?_
      refine ev_reti dX7_winner_35 rfl (Nat.zero_le _) (Nat.zero_le _) ?_
      exact ⟨by unfold s_wn; simp [c3, Int32.not_le.mp c3, c9, Int32.not_le.mp c9]; try rfl, hI8, (fr_M.tr (fr_M.tr (fr_M.tr (fr_M.tr fr_M.rf hF1) hF2) hF7) hF8)⟩

set_option maxHeartbeats 400000 in
set_option maxRecDepth 100000 in
theorem c_X7_apart (G : am_G) (D : Nat) (A : am_S) (σ : am_M) (hA : wf_A A) (hI : iv_M A σ) (m : Nat) (hm : m < 2 ^ 31) : am_Mt G (D + 8) mX7_apart [.ref 65, .int (nI m)] σ 0 0 (am_qM A (.int (s_ap A (fun q => m.testBit q))) σ) := by
  have b7 := wf_np7 hA
  have b8 := wf_nq8 hA
  have b6 := wf_nt6 hA
  have b61 := wf_nt1 hA
  have b160 := wf_tp160 hA
  have brl := wf_rlt hA
  refine am_of moX7_apart (Nat.le_of_ble_eq_true rfl) ?_
  show am_Ev G mX7_apart (am_R (D + 8) 0 0) 0 0 (am_qM A (.int (s_ap A (fun q => m.testBit q))) σ) 0 [(0, .ref 65), (1, .int (nI m))] [] σ 0 0
  refine ev_aload_n dX7_apart_0 rfl rfl ?_
  refine ev_iconst (v := 0) dX7_apart_1 (by decide) ?_
  refine ev_iload_n dX7_apart_2 rfl rfl ?_
  refine ev_callV (as := [.int 0, .int (nI m)]) (st := []) dX7_apart_3 mfX7_scoreOf lk_X7_214 (ly_k hI.ly 65 rfl) (by decide) rfl (c_X7_scoreOf G D A σ hA hI 0 m (by omega) (by omega)) rfl rfl (Nat.le_of_ble_eq_true rfl) (am_hR (by omega) (by decide)) ⟨Nat.le_refl _, Nat.le_refl _⟩ ?_
  rintro _ σ1 ⟨rfl, hI1, hF1⟩
  refine ev_istore_n (lv' := [(0, .ref 65), (1, .int (nI m)), (2, .int (s_sc A (s_se A 0) (A 73 0) (fun q => Nat.testBit m q)))]) dX7_apart_6 rfl (by decide) rfl ?_
  refine ev_iload_n dX7_apart_7 rfl rfl ?_
  refine ev_istore_n (lv' := [(0, .ref 65), (1, .int (nI m)), (2, .int (s_sc A (s_se A 0) (A 73 0) (fun q => Nat.testBit m q))), (3, .int (s_sc A (s_se A 0) (A 73 0) (fun q => Nat.testBit m q)))]) dX7_apart_8 rfl (by decide) rfl ?_
  refine ev_iconst (v := 1) dX7_apart_9 (by decide) ?_
  refine ev_istore (lv' := [(0, .ref 65), (1, .int (nI m)), (2, .int (s_sc A (s_se A 0) (A 73 0) (fun q => Nat.testBit m q))), (3, .int (s_sc A (s_se A 0) (A 73 0) (fun q => Nat.testBit m q))), (4, .int 1)]) dX7_apart_10 (by decide) rfl ?_
  refine ev_iload dX7_apart_12 rfl ?_
  refine ev_iconst (v := 3) dX7_apart_14 (by decide) ?_
  refine ev_icmp_ge (tgt := 59) dX7_apart_15 (by decide) (fun c => absurd c (by decide)) (fun _ => ?_)
  refine ev_aload_n dX7_apart_18 rfl rfl ?_
  refine ev_iload dX7_apart_19 rfl ?_
  refine ev_iload_n dX7_apart_21 rfl rfl ?_
  refine ev_callV (as := [.int 1, .int (nI m)]) (st := []) dX7_apart_22 mfX7_scoreOf lk_X7_214 (ly_k hI1.ly 65 rfl) (by decide) rfl (c_X7_scoreOf G D A σ1 hA hI1 1 m (by omega) (by omega)) rfl rfl (Nat.le_of_ble_eq_true rfl) (am_hR (by omega) (by decide)) ⟨Nat.le_refl _, Nat.le_refl _⟩ ?_
  rintro _ σ2 ⟨rfl, hI2, hF2⟩
  refine ev_istore (lv' := [(0, .ref 65), (1, .int (nI m)), (2, .int (s_sc A (s_se A 0) (A 73 0) (fun q => Nat.testBit m q))), (3, .int (s_sc A (s_se A 0) (A 73 0) (fun q => Nat.testBit m q))), (4, .int 1), (5, .int (s_sc A (s_se A 1) (A 73 1) (fun q => Nat.testBit m q)))]) dX7_apart_25 (by decide) rfl ?_
  refine ev_iload dX7_apart_27 rfl ?_
  refine ev_iload_n dX7_apart_29 rfl rfl ?_
  refine ev_icmp_le (tgt := 38) dX7_apart_30 (by decide) (fun c3 => ?_) (fun c3 => ?_)
  · skip
    refine ev_iload_n dX7_apart_38 rfl rfl ?_
    refine ev_istore_n (lv' := [(0, .ref 65), (1, .int (nI m)), (2, .int (s_sc A (s_se A 0) (A 73 0) (fun q => Nat.testBit m q))), (3, .int (s_sc A (s_se A 0) (A 73 0) (fun q => Nat.testBit m q))), (4, .int 1), (5, .int (s_sc A (s_se A 1) (A 73 1) (fun q => Nat.testBit m q)))]) dX7_apart_39 rfl (by decide) rfl ?_
    refine ev_iload dX7_apart_40 rfl ?_
    refine ev_iload_n dX7_apart_42 rfl rfl ?_
    refine ev_icmp_ge (tgt := 51) dX7_apart_43 (by decide) (fun c4 => ?_) (fun c4 => ?_)
    · skip
      refine ev_iload_n dX7_apart_51 rfl rfl ?_
      refine ev_istore_n (lv' := [(0, .ref 65), (1, .int (nI m)), (2, .int (s_sc A (s_se A 0) (A 73 0) (fun q => Nat.testBit m q))), (3, .int (s_sc A (s_se A 0) (A 73 0) (fun q => Nat.testBit m q))), (4, .int 1), (5, .int (s_sc A (s_se A 1) (A 73 1) (fun q => Nat.testBit m q)))]) dX7_apart_52 rfl (by decide) rfl ?_
      refine ev_iinc (lv' := [(0, .ref 65), (1, .int (nI m)), (2, .int (s_sc A (s_se A 0) (A 73 0) (fun q => Nat.testBit m q))), (3, .int (s_sc A (s_se A 0) (A 73 0) (fun q => Nat.testBit m q))), (4, .int 2), (5, .int (s_sc A (s_se A 1) (A 73 1) (fun q => Nat.testBit m q)))]) (v := 2) dX7_apart_53 rfl (by decide) (by decide) rfl ?_
      refine ev_goto (tgt := 12) dX7_apart_56 (by decide) ?_
      refine ev_iload dX7_apart_12 rfl ?_
      refine ev_iconst (v := 3) dX7_apart_14 (by decide) ?_
      refine ev_icmp_ge (tgt := 59) dX7_apart_15 (by decide) (fun c => absurd c (by decide)) (fun _ => ?_)
      refine ev_aload_n dX7_apart_18 rfl rfl ?_
      refine ev_iload dX7_apart_19 rfl ?_
      refine ev_iload_n dX7_apart_21 rfl rfl ?_
      refine ev_callV (as := [.int 2, .int (nI m)]) (st := []) dX7_apart_22 mfX7_scoreOf lk_X7_214 (ly_k hI2.ly 65 rfl) (by decide) rfl (c_X7_scoreOf G D A σ2 hA hI2 2 m (by omega) (by omega)) rfl rfl (Nat.le_of_ble_eq_true rfl) (am_hR (by omega) (by decide)) ⟨Nat.le_refl _, Nat.le_refl _⟩ ?_
      rintro _ σ5 ⟨rfl, hI5, hF5⟩
      refine ev_istore (lv' := [(0, .ref 65), (1, .int (nI m)), (2, .int (s_sc A (s_se A 0) (A 73 0) (fun q => Nat.testBit m q))), (3, .int (s_sc A (s_se A 0) (A 73 0) (fun q => Nat.testBit m q))), (4, .int 2), (5, .int (s_sc A (s_se A 2) (A 73 2) (fun q => Nat.testBit m q)))]) dX7_apart_25 (by decide) rfl ?_
      refine ev_iload dX7_apart_27 rfl ?_
      refine ev_iload_n dX7_apart_29 rfl rfl ?_
      refine ev_icmp_le (tgt := 38) dX7_apart_30 (by decide) (fun c6 => ?_) (fun c6 => ?_)
      · skip
        refine ev_iload_n dX7_apart_38 rfl rfl ?_
        refine ev_istore_n (lv' := [(0, .ref 65), (1, .int (nI m)), (2, .int (s_sc A (s_se A 0) (A 73 0) (fun q => Nat.testBit m q))), (3, .int (s_sc A (s_se A 0) (A 73 0) (fun q => Nat.testBit m q))), (4, .int 2), (5, .int (s_sc A (s_se A 2) (A 73 2) (fun q => Nat.testBit m q)))]) dX7_apart_39 rfl (by decide) rfl ?_
        refine ev_iload dX7_apart_40 rfl ?_
        refine ev_iload_n dX7_apart_42 rfl rfl ?_
        refine ev_icmp_ge (tgt := 51) dX7_apart_43 (by decide) (fun c7 => ?_) (fun c7 => ?_)
        · skip
          refine ev_iload_n dX7_apart_51 rfl rfl ?_
          refine ev_istore_n (lv' := [(0, .ref 65), (1, .int (nI m)), (2, .int (s_sc A (s_se A 0) (A 73 0) (fun q => Nat.testBit m q))), (3, .int (s_sc A (s_se A 0) (A 73 0) (fun q => Nat.testBit m q))), (4, .int 2), (5, .int (s_sc A (s_se A 2) (A 73 2) (fun q => Nat.testBit m q)))]) dX7_apart_52 rfl (by decide) rfl ?_
          refine ev_iinc (lv' := [(0, .ref 65), (1, .int (nI m)), (2, .int (s_sc A (s_se A 0) (A 73 0) (fun q => Nat.testBit m q))), (3, .int (s_sc A (s_se A 0) (A 73 0) (fun q => Nat.testBit m q))), (4, .int 3), (5, .int (s_sc A (s_se A 2) (A 73 2) (fun q => Nat.testBit m q)))]) (v := 3) dX7_apart_53 rfl (by decide) (by decide) rfl ?_
          refine ev_goto (tgt := 12) dX7_apart_56 (by decide) ?_
          refine ev_iload dX7_apart_12 rfl ?_
          refine ev_iconst (v := 3) dX7_apart_14 (by decide) ?_
          refine ev_icmp_ge (tgt := 59) dX7_apart_15 (by decide) (fun _ => ?_) (fun c => absurd (by decide) c)
          refine ev_iload_n dX7_apart_59 rfl rfl ?_
          refine ev_iload_n dX7_apart_60 rfl rfl ?_
          refine ev_isub (v := (s_sc A (s_se A 0) (A 73 0) (fun q => Nat.testBit m q)) - (s_sc A (s_se A 0) (A 73 0) (fun q => Nat.testBit m q))) dX7_apart_61 rfl ?_
          refine ev_reti dX7_apart_62 rfl (Nat.zero_le _) (Nat.zero_le _) ?_
          exact ⟨by unfold s_ap s_a3 s_mx s_mn s_scF; simp [c3, Int32.not_lt.mpr c3, c4, Int32.not_lt.mpr c4, c6, Int32.not_lt.mpr c6, c7, Int32.not_lt.mpr c7], hI5, (fr_M.tr (fr_M.tr (fr_M.tr fr_M.rf hF1) hF2) hF5)⟩
        · skip
          refine ev_iload dX7_apart_46 rfl ?_
          refine ev_goto (tgt := 52) dX7_apart_48 (by decide) ?_
          refine ev_istore_n (lv' := [(0, .ref 65), (1, .int (nI m)), (2, .int (s_sc A (s_se A 0) (A 73 0) (fun q => Nat.testBit m q))), (3, .int (s_sc A (s_se A 2) (A 73 2) (fun q => Nat.testBit m q))), (4, .int 2), (5, .int (s_sc A (s_se A 2) (A 73 2) (fun q => Nat.testBit m q)))]) dX7_apart_52 rfl (by decide) rfl ?_
          refine ev_iinc (lv' := [(0, .ref 65), (1, .int (nI m)), (2, .int (s_sc A (s_se A 0) (A 73 0) (fun q => Nat.testBit m q))), (3, .int (s_sc A (s_se A 2) (A 73 2) (fun q => Nat.testBit m q))), (4, .int 3), (5, .int (s_sc A (s_se A 2) (A 73 2) (fun q => Nat.testBit m q)))]) (v := 3) dX7_apart_53 rfl (by decide) (by decide) rfl ?_
          refine ev_goto (tgt := 12) dX7_apart_56 (by decide) ?_
          refine ev_iload dX7_apart_12 rfl ?_
          refine ev_iconst (v := 3) dX7_apart_14 (by decide) ?_
          refine ev_icmp_ge (tgt := 59) dX7_apart_15 (by decide) (fun _ => ?_) (fun c => absurd (by decide) c)
          refine ev_iload_n dX7_apart_59 rfl rfl ?_
          refine ev_iload_n dX7_apart_60 rfl rfl ?_
          refine ev_isub (v := (s_sc A (s_se A 0) (A 73 0) (fun q => Nat.testBit m q)) - (s_sc A (s_se A 2) (A 73 2) (fun q => Nat.testBit m q))) dX7_apart_61 rfl ?_
          refine ev_reti dX7_apart_62 rfl (Nat.zero_le _) (Nat.zero_le _) ?_
          exact ⟨by unfold s_ap s_a3 s_mx s_mn s_scF; simp [c3, Int32.not_lt.mpr c3, c4, Int32.not_lt.mpr c4, c6, Int32.not_lt.mpr c6, c7, Int32.not_le.mp c7], hI5, (fr_M.tr (fr_M.tr (fr_M.tr fr_M.rf hF1) hF2) hF5)⟩
      · skip
        refine ev_iload dX7_apart_33 rfl ?_
        refine ev_goto (tgt := 39) dX7_apart_35 (by decide) ?_
        refine ev_istore_n (lv' := [(0, .ref 65), (1, .int (nI m)), (2, .int (s_sc A (s_se A 2) (A 73 2) (fun q => Nat.testBit m q))), (3, .int (s_sc A (s_se A 0) (A 73 0) (fun q => Nat.testBit m q))), (4, .int 2), (5, .int (s_sc A (s_se A 2) (A 73 2) (fun q => Nat.testBit m q)))]) dX7_apart_39 rfl (by decide) rfl ?_
        refine ev_iload dX7_apart_40 rfl ?_
        refine ev_iload_n dX7_apart_42 rfl rfl ?_
        refine ev_icmp_ge (tgt := 51) dX7_apart_43 (by decide) (fun c8 => ?_) (fun c8 => ?_)
        · skip
          refine ev_iload_n dX7_apart_51 rfl rfl ?_
          refine ev_istore_n (lv' := [(0, .ref 65), (1, .int (nI m)), (2, .int (s_sc A (s_se A 2) (A 73 2) (fun q => Nat.testBit m q))), (3, .int (s_sc A (s_se A 0) (A 73 0) (fun q => Nat.testBit m q))), (4, .int 2), (5, .int (s_sc A (s_se A 2) (A 73 2) (fun q => Nat.testBit m q)))]) dX7_apart_52 rfl (by decide) rfl ?_
          refine ev_iinc (lv' := [(0, .ref 65), (1, .int (nI m)), (2, .int (s_sc A (s_se A 2) (A 73 2) (fun q => Nat.testBit m q))), (3, .int (s_sc A (s_se A 0) (A 73 0) (fun q => Nat.testBit m q))), (4, .int 3), (5, .int (s_sc A (s_se A 2) (A 73 2) (fun q => Nat.testBit m q)))]) (v := 3) dX7_apart_53 rfl (by decide) (by decide) rfl ?_
          refine ev_goto (tgt := 12) dX7_apart_56 (by decide) ?_
          refine ev_iload dX7_apart_12 rfl ?_
          refine ev_iconst (v := 3) dX7_apart_14 (by decide) ?_
          refine ev_icmp_ge (tgt := 59) dX7_apart_15 (by decide) (fun _ => ?_) (fun c => absurd (by decide) c)
          refine ev_iload_n dX7_apart_59 rfl rfl ?_
          refine ev_iload_n dX7_apart_60 rfl rfl ?_
          refine ev_isub (v := (s_sc A (s_se A 2) (A 73 2) (fun q => Nat.testBit m q)) - (s_sc A (s_se A 0) (A 73 0) (fun q => Nat.testBit m q))) dX7_apart_61 rfl ?_
          refine ev_reti dX7_apart_62 rfl (Nat.zero_le _) (Nat.zero_le _) ?_
          exact ⟨by unfold s_ap s_a3 s_mx s_mn s_scF; simp [c3, Int32.not_lt.mpr c3, c4, Int32.not_lt.mpr c4, c6, Int32.not_le.mp c6, c8, Int32.not_lt.mpr c8], hI5, (fr_M.tr (fr_M.tr (fr_M.tr fr_M.rf hF1) hF2) hF5)⟩
        · skip
          refine ev_iload dX7_apart_46 rfl ?_
          refine ev_goto (tgt := 52) dX7_apart_48 (by decide) ?_
          refine ev_istore_n (lv' := [(0, .ref 65), (1, .int (nI m)), (2, .int (s_sc A (s_se A 2) (A 73 2) (fun q => Nat.testBit m q))), (3, .int (s_sc A (s_se A 2) (A 73 2) (fun q => Nat.testBit m q))), (4, .int 2), (5, .int (s_sc A (s_se A 2) (A 73 2) (fun q => Nat.testBit m q)))]) dX7_apart_52 rfl (by decide) rfl ?_
          refine ev_iinc (lv' := [(0, .ref 65), (1, .int (nI m)), (2, .int (s_sc A (s_se A 2) (A 73 2) (fun q => Nat.testBit m q))), (3, .int (s_sc A (s_se A 2) (A 73 2) (fun q => Nat.testBit m q))), (4, .int 3), (5, .int (s_sc A (s_se A 2) (A 73 2) (fun q => Nat.testBit m q)))]) (v := 3) dX7_apart_53 rfl (by decide) (by decide) rfl ?_
          refine ev_goto (tgt := 12) dX7_apart_56 (by decide) ?_
          refine ev_iload dX7_apart_12 rfl ?_
          refine ev_iconst (v := 3) dX7_apart_14 (by decide) ?_
          refine ev_icmp_ge (tgt := 59) dX7_apart_15 (by decide) (fun _ => ?_) (fun c => absurd (by decide) c)
          refine ev_iload_n dX7_apart_59 rfl rfl ?_
          refine ev_iload_n dX7_apart_60 rfl rfl ?_
          refine ev_isub (v := (s_sc A (s_se A 2) (A 73 2) (fun q => Nat.testBit m q)) - (s_sc A (s_se A 2) (A 73 2) (fun q => Nat.testBit m q))) dX7_apart_61 rfl ?_
          refine ev_reti dX7_apart_62 rfl (Nat.zero_le _) (Nat.zero_le _) ?_
          exact ⟨by unfold s_ap s_a3 s_mx s_mn s_scF; simp [c3, Int32.not_lt.mpr c3, c4, Int32.not_lt.mpr c4, c6, Int32.not_le.mp c6, c8, Int32.not_le.mp c8], hI5, (fr_M.tr (fr_M.tr (fr_M.tr fr_M.rf hF1) hF2) hF5)⟩
    · skip
      refine ev_iload dX7_apart_46 rfl ?_
      refine ev_goto (tgt := 52) dX7_apart_48 (by decide) ?_
      refine ev_istore_n (lv' := [(0, .ref 65), (1, .int (nI m)), (2, .int (s_sc A (s_se A 0) (A 73 0) (fun q => Nat.testBit m q))), (3, .int (s_sc A (s_se A 1) (A 73 1) (fun q => Nat.testBit m q))), (4, .int 1), (5, .int (s_sc A (s_se A 1) (A 73 1) (fun q => Nat.testBit m q)))]) dX7_apart_52 rfl (by decide) rfl ?_
      refine ev_iinc (lv' := [(0, .ref 65), (1, .int (nI m)), (2, .int (s_sc A (s_se A 0) (A 73 0) (fun q => Nat.testBit m q))), (3, .int (s_sc A (s_se A 1) (A 73 1) (fun q => Nat.testBit m q))), (4, .int 2), (5, .int (s_sc A (s_se A 1) (A 73 1) (fun q => Nat.testBit m q)))]) (v := 2) dX7_apart_53 rfl (by decide) (by decide) rfl ?_
      refine ev_goto (tgt := 12) dX7_apart_56 (by decide) ?_
      refine ev_iload dX7_apart_12 rfl ?_
      refine ev_iconst (v := 3) dX7_apart_14 (by decide) ?_
      refine ev_icmp_ge (tgt := 59) dX7_apart_15 (by decide) (fun c => absurd c (by decide)) (fun _ => ?_)
      refine ev_aload_n dX7_apart_18 rfl rfl ?_
      refine ev_iload dX7_apart_19 rfl ?_
      refine ev_iload_n dX7_apart_21 rfl rfl ?_
      refine ev_callV (as := [.int 2, .int (nI m)]) (st := []) dX7_apart_22 mfX7_scoreOf lk_X7_214 (ly_k hI2.ly 65 rfl) (by decide) rfl (c_X7_scoreOf G D A σ2 hA hI2 2 m (by omega) (by omega)) rfl rfl (Nat.le_of_ble_eq_true rfl) (am_hR (by omega) (by decide)) ⟨Nat.le_refl _, Nat.le_refl _⟩ ?_
      rintro _ σ9 ⟨rfl, hI9, hF9⟩
      refine ev_istore (lv' := [(0, .ref 65), (1, .int (nI m)), (2, .int (s_sc A (s_se A 0) (A 73 0) (fun q => Nat.testBit m q))), (3, .int (s_sc A (s_se A 1) (A 73 1) (fun q => Nat.testBit m q))), (4, .int 2), (5, .int (s_sc A (s_se A 2) (A 73 2) (fun q => Nat.testBit m q)))]) dX7_apart_25 (by decide) rfl ?_
      refine ev_iload dX7_apart_27 rfl ?_
      refine ev_iload_n dX7_apart_29 rfl rfl ?_
      refine ev_icmp_le (tgt := 38) dX7_apart_30 (by decide) (fun c10 => ?_) (fun c10 => ?_)
      · skip
        refine ev_iload_n dX7_apart_38 rfl rfl ?_
        refine ev_istore_n (lv' := [(0, .ref 65), (1, .int (nI m)), (2, .int (s_sc A (s_se A 0) (A 73 0) (fun q => Nat.testBit m q))), (3, .int (s_sc A (s_se A 1) (A 73 1) (fun q => Nat.testBit m q))), (4, .int 2), (5, .int (s_sc A (s_se A 2) (A 73 2) (fun q => Nat.testBit m q)))]) dX7_apart_39 rfl (by decide) rfl ?_
        refine ev_iload dX7_apart_40 rfl ?_
        refine ev_iload_n dX7_apart_42 rfl rfl ?_
        refine ev_icmp_ge (tgt := 51) dX7_apart_43 (by decide) (fun c11 => ?_) (fun c11 => ?_)
        · skip
          refine ev_iload_n dX7_apart_51 rfl rfl ?_
          refine ev_istore_n (lv' := [(0, .ref 65), (1, .int (nI m)), (2, .int (s_sc A (s_se A 0) (A 73 0) (fun q => Nat.testBit m q))), (3, .int (s_sc A (s_se A 1) (A 73 1) (fun q => Nat.testBit m q))), (4, .int 2), (5, .int (s_sc A (s_se A 2) (A 73 2) (fun q => Nat.testBit m q)))]) dX7_apart_52 rfl (by decide) rfl ?_
          refine ev_iinc (lv' := [(0, .ref 65), (1, .int (nI m)), (2, .int (s_sc A (s_se A 0) (A 73 0) (fun q => Nat.testBit m q))), (3, .int (s_sc A (s_se A 1) (A 73 1) (fun q => Nat.testBit m q))), (4, .int 3), (5, .int (s_sc A (s_se A 2) (A 73 2) (fun q => Nat.testBit m q)))]) (v := 3) dX7_apart_53 rfl (by decide) (by decide) rfl ?_
          refine ev_goto (tgt := 12) dX7_apart_56 (by decide) ?_
          refine ev_iload dX7_apart_12 rfl ?_
          refine ev_iconst (v := 3) dX7_apart_14 (by decide) ?_
          refine ev_icmp_ge (tgt := 59) dX7_apart_15 (by decide) (fun _ => ?_) (fun c => absurd (by decide) c)
          refine ev_iload_n dX7_apart_59 rfl rfl ?_
          refine ev_iload_n dX7_apart_60 rfl rfl ?_
          refine ev_isub (v := (s_sc A (s_se A 0) (A 73 0) (fun q => Nat.testBit m q)) - (s_sc A (s_se A 1) (A 73 1) (fun q => Nat.testBit m q))) dX7_apart_61 rfl ?_
          refine ev_reti dX7_apart_62 rfl (Nat.zero_le _) (Nat.zero_le _) ?_
          exact ⟨by unfold s_ap s_a3 s_mx s_mn s_scF; simp [c3, Int32.not_lt.mpr c3, c4, Int32.not_le.mp c4, c10, Int32.not_lt.mpr c10, c11, Int32.not_lt.mpr c11], hI9, (fr_M.tr (fr_M.tr (fr_M.tr fr_M.rf hF1) hF2) hF9)⟩
        · skip
          refine ev_iload dX7_apart_46 rfl ?_
          refine ev_goto (tgt := 52) dX7_apart_48 (by decide) ?_
          refine ev_istore_n (lv' := [(0, .ref 65), (1, .int (nI m)), (2, .int (s_sc A (s_se A 0) (A 73 0) (fun q => Nat.testBit m q))), (3, .int (s_sc A (s_se A 2) (A 73 2) (fun q => Nat.testBit m q))), (4, .int 2), (5, .int (s_sc A (s_se A 2) (A 73 2) (fun q => Nat.testBit m q)))]) dX7_apart_52 rfl (by decide) rfl ?_
          refine ev_iinc (lv' := [(0, .ref 65), (1, .int (nI m)), (2, .int (s_sc A (s_se A 0) (A 73 0) (fun q => Nat.testBit m q))), (3, .int (s_sc A (s_se A 2) (A 73 2) (fun q => Nat.testBit m q))), (4, .int 3), (5, .int (s_sc A (s_se A 2) (A 73 2) (fun q => Nat.testBit m q)))]) (v := 3) dX7_apart_53 rfl (by decide) (by decide) rfl ?_
          refine ev_goto (tgt := 12) dX7_apart_56 (by decide) ?_
          refine ev_iload dX7_apart_12 rfl ?_
          refine ev_iconst (v := 3) dX7_apart_14 (by decide) ?_
          refine ev_icmp_ge (tgt := 59) dX7_apart_15 (by decide) (fun _ => ?_) (fun c => absurd (by decide) c)
          refine ev_iload_n dX7_apart_59 rfl rfl ?_
          refine ev_iload_n dX7_apart_60 rfl rfl ?_
          refine ev_isub (v := (s_sc A (s_se A 0) (A 73 0) (fun q => Nat.testBit m q)) - (s_sc A (s_se A 2) (A 73 2) (fun q => Nat.testBit m q))) dX7_apart_61 rfl ?_
          refine ev_reti dX7_apart_62 rfl (Nat.zero_le _) (Nat.zero_le _) ?_
          exact ⟨by unfold s_ap s_a3 s_mx s_mn s_scF; simp [c3, Int32.not_lt.mpr c3, c4, Int32.not_le.mp c4, c10, Int32.not_lt.mpr c10, c11, Int32.not_le.mp c11], hI9, (fr_M.tr (fr_M.tr (fr_M.tr fr_M.rf hF1) hF2) hF9)⟩
      · skip
        refine ev_iload dX7_apart_33 rfl ?_
        refine ev_goto (tgt := 39) dX7_apart_35 (by decide) ?_
        refine ev_istore_n (lv' := [(0, .ref 65), (1, .int (nI m)), (2, .int (s_sc A (s_se A 2) (A 73 2) (fun q => Nat.testBit m q))), (3, .int (s_sc A (s_se A 1) (A 73 1) (fun q => Nat.testBit m q))), (4, .int 2), (5, .int (s_sc A (s_se A 2) (A 73 2) (fun q => Nat.testBit m q)))]) dX7_apart_39 rfl (by decide) rfl ?_
        refine ev_iload dX7_apart_40 rfl ?_
        refine ev_iload_n dX7_apart_42 rfl rfl ?_
        refine ev_icmp_ge (tgt := 51) dX7_apart_43 (by decide) (fun c12 => ?_) (fun c12 => ?_)
        · skip
          refine ev_iload_n dX7_apart_51 rfl rfl ?_
          refine ev_istore_n (lv' := [(0, .ref 65), (1, .int (nI m)), (2, .int (s_sc A (s_se A 2) (A 73 2) (fun q => Nat.testBit m q))), (3, .int (s_sc A (s_se A 1) (A 73 1) (fun q => Nat.testBit m q))), (4, .int 2), (5, .int (s_sc A (s_se A 2) (A 73 2) (fun q => Nat.testBit m q)))]) dX7_apart_52 rfl (by decide) rfl ?_
          refine ev_iinc (lv' := [(0, .ref 65), (1, .int (nI m)), (2, .int (s_sc A (s_se A 2) (A 73 2) (fun q => Nat.testBit m q))), (3, .int (s_sc A (s_se A 1) (A 73 1) (fun q => Nat.testBit m q))), (4, .int 3), (5, .int (s_sc A (s_se A 2) (A 73 2) (fun q => Nat.testBit m q)))]) (v := 3) dX7_apart_53 rfl (by decide) (by decide) rfl ?_
          refine ev_goto (tgt := 12) dX7_apart_56 (by decide) ?_
          refine ev_iload dX7_apart_12 rfl ?_
          refine ev_iconst (v := 3) dX7_apart_14 (by decide) ?_
          refine ev_icmp_ge (tgt := 59) dX7_apart_15 (by decide) (fun _ => ?_) (fun c => absurd (by decide) c)
          refine ev_iload_n dX7_apart_59 rfl rfl ?_
          refine ev_iload_n dX7_apart_60 rfl rfl ?_
          refine ev_isub (v := (s_sc A (s_se A 2) (A 73 2) (fun q => Nat.testBit m q)) - (s_sc A (s_se A 1) (A 73 1) (fun q => Nat.testBit m q))) dX7_apart_61 rfl ?_
          refine ev_reti dX7_apart_62 rfl (Nat.zero_le _) (Nat.zero_le _) ?_
          exact ⟨by unfold s_ap s_a3 s_mx s_mn s_scF; simp [c3, Int32.not_lt.mpr c3, c4, Int32.not_le.mp c4, c10, Int32.not_le.mp c10, c12, Int32.not_lt.mpr c12], hI9, (fr_M.tr (fr_M.tr (fr_M.tr fr_M.rf hF1) hF2) hF9)⟩
        · skip
          refine ev_iload dX7_apart_46 rfl ?_
          refine ev_goto (tgt := 52) dX7_apart_48 (by decide) ?_
          refine ev_istore_n (lv' := [(0, .ref 65), (1, .int (nI m)), (2, .int (s_sc A (s_se A 2) (A 73 2) (fun q => Nat.testBit m q))), (3, .int (s_sc A (s_se A 2) (A 73 2) (fun q => Nat.testBit m q))), (4, .int 2), (5, .int (s_sc A (s_se A 2) (A 73 2) (fun q => Nat.testBit m q)))]) dX7_apart_52 rfl (by decide) rfl ?_
          refine ev_iinc (lv' := [(0, .ref 65), (1, .int (nI m)), (2, .int (s_sc A (s_se A 2) (A 73 2) (fun q => Nat.testBit m q))), (3, .int (s_sc A (s_se A 2) (A 73 2) (fun q => Nat.testBit m q))), (4, .int 3), (5, .int (s_sc A (s_se A 2) (A 73 2) (fun q => Nat.testBit m q)))]) (v := 3) dX7_apart_53 rfl (by decide) (by decide) rfl ?_
          refine ev_goto (tgt := 12) dX7_apart_56 (by decide) ?_
          refine ev_iload dX7_apart_12 rfl ?_
          refine ev_iconst (v := 3) dX7_apart_14 (by decide) ?_
          refine ev_icmp_ge (tgt := 59) dX7_apart_15 (by decide) (fun _ => ?_) (fun c => absurd (by decide) c)
          refine ev_iload_n dX7_apart_59 rfl rfl ?_
          refine ev_iload_n dX7_apart_60 rfl rfl ?_
          refine ev_isub (v := (s_sc A (s_se A 2) (A 73 2) (fun q => Nat.testBit m q)) - (s_sc A (s_se A 2) (A 73 2) (fun q => Nat.testBit m q))) dX7_apart_61 rfl ?_
          refine ev_reti dX7_apart_62 rfl (Nat.zero_le _) (Nat.zero_le _) ?_
          exact ⟨by unfold s_ap s_a3 s_mx s_mn s_scF; simp [c3, Int32.not_lt.mpr c3, c4, Int32.not_le.mp c4, c10, Int32.not_le.mp c10, c12, Int32.not_le.mp c12], hI9, (fr_M.tr (fr_M.tr (fr_M.tr fr_M.rf hF1) hF2) hF9)⟩
  · skip
    refine ev_iload dX7_apart_33 rfl ?_
    refine ev_goto (tgt := 39) dX7_apart_35 (by decide) ?_
    refine ev_istore_n (lv' := [(0, .ref 65), (1, .int (nI m)), (2, .int (s_sc A (s_se A 1) (A 73 1) (fun q => Nat.testBit m q))), (3, .int (s_sc A (s_se A 0) (A 73 0) (fun q => Nat.testBit m q))), (4, .int 1), (5, .int (s_sc A (s_se A 1) (A 73 1) (fun q => Nat.testBit m q)))]) dX7_apart_39 rfl (by decide) rfl ?_
    refine ev_iload dX7_apart_40 rfl ?_
    refine ev_iload_n dX7_apart_42 rfl rfl ?_
    refine ev_icmp_ge (tgt := 51) dX7_apart_43 (by decide) (fun c13 => ?_) (fun c13 => ?_)
    · skip
      refine ev_iload_n dX7_apart_51 rfl rfl ?_
      refine ev_istore_n (lv' := [(0, .ref 65), (1, .int (nI m)), (2, .int (s_sc A (s_se A 1) (A 73 1) (fun q => Nat.testBit m q))), (3, .int (s_sc A (s_se A 0) (A 73 0) (fun q => Nat.testBit m q))), (4, .int 1), (5, .int (s_sc A (s_se A 1) (A 73 1) (fun q => Nat.testBit m q)))]) dX7_apart_52 rfl (by decide) rfl ?_
      refine ev_iinc (lv' := [(0, .ref 65), (1, .int (nI m)), (2, .int (s_sc A (s_se A 1) (A 73 1) (fun q => Nat.testBit m q))), (3, .int (s_sc A (s_se A 0) (A 73 0) (fun q => Nat.testBit m q))), (4, .int 2), (5, .int (s_sc A (s_se A 1) (A 73 1) (fun q => Nat.testBit m q)))]) (v := 2) dX7_apart_53 rfl (by decide) (by decide) rfl ?_
      refine ev_goto (tgt := 12) dX7_apart_56 (by decide) ?_
      refine ev_iload dX7_apart_12 rfl ?_
      refine ev_iconst (v := 3) dX7_apart_14 (by decide) ?_
      refine ev_icmp_ge (tgt := 59) dX7_apart_15 (by decide) (fun c => absurd c (by decide)) (fun _ => ?_)
      refine ev_aload_n dX7_apart_18 rfl rfl ?_
      refine ev_iload dX7_apart_19 rfl ?_
      refine ev_iload_n dX7_apart_21 rfl rfl ?_
      refine ev_callV (as := [.int 2, .int (nI m)]) (st := []) dX7_apart_22 mfX7_scoreOf lk_X7_214 (ly_k hI2.ly 65 rfl) (by decide) rfl (c_X7_scoreOf G D A σ2 hA hI2 2 m (by omega) (by omega)) rfl rfl (Nat.le_of_ble_eq_true rfl) (am_hR (by omega) (by decide)) ⟨Nat.le_refl _, Nat.le_refl _⟩ ?_
      rintro _ σ14 ⟨rfl, hI14, hF14⟩
      refine ev_istore (lv' := [(0, .ref 65), (1, .int (nI m)), (2, .int (s_sc A (s_se A 1) (A 73 1) (fun q => Nat.testBit m q))), (3, .int (s_sc A (s_se A 0) (A 73 0) (fun q => Nat.testBit m q))), (4, .int 2), (5, .int (s_sc A (s_se A 2) (A 73 2) (fun q => Nat.testBit m q)))]) dX7_apart_25 (by decide) rfl ?_
      refine ev_iload dX7_apart_27 rfl ?_
      refine ev_iload_n dX7_apart_29 rfl rfl ?_
      refine ev_icmp_le (tgt := 38) dX7_apart_30 (by decide) (fun c15 => ?_) (fun c15 => ?_)
      · skip
        refine ev_iload_n dX7_apart_38 rfl rfl ?_
        refine ev_istore_n (lv' := [(0, .ref 65), (1, .int (nI m)), (2, .int (s_sc A (s_se A 1) (A 73 1) (fun q => Nat.testBit m q))), (3, .int (s_sc A (s_se A 0) (A 73 0) (fun q => Nat.testBit m q))), (4, .int 2), (5, .int (s_sc A (s_se A 2) (A 73 2) (fun q => Nat.testBit m q)))]) dX7_apart_39 rfl (by decide) rfl ?_
        refine ev_iload dX7_apart_40 rfl ?_
        refine ev_iload_n dX7_apart_42 rfl rfl ?_
        refine ev_icmp_ge (tgt := 51) dX7_apart_43 (by decide) (fun c16 => ?_) (fun c16 => ?_)
        · skip
          refine ev_iload_n dX7_apart_51 rfl rfl ?_
          refine ev_istore_n (lv' := [(0, .ref 65), (1, .int (nI m)), (2, .int (s_sc A (s_se A 1) (A 73 1) (fun q => Nat.testBit m q))), (3, .int (s_sc A (s_se A 0) (A 73 0) (fun q => Nat.testBit m q))), (4, .int 2), (5, .int (s_sc A (s_se A 2) (A 73 2) (fun q => Nat.testBit m q)))]) dX7_apart_52 rfl (by decide) rfl ?_
          refine ev_iinc (lv' := [(0, .ref 65), (1, .int (nI m)), (2, .int (s_sc A (s_se A 1) (A 73 1) (fun q => Nat.testBit m q))), (3, .int (s_sc A (s_se A 0) (A 73 0) (fun q => Nat.testBit m q))), (4, .int 3), (5, .int (s_sc A (s_se A 2) (A 73 2) (fun q => Nat.testBit m q)))]) (v := 3) dX7_apart_53 rfl (by decide) (by decide) rfl ?_
          refine ev_goto (tgt := 12) dX7_apart_56 (by decide) ?_
          refine ev_iload dX7_apart_12 rfl ?_
          refine ev_iconst (v := 3) dX7_apart_14 (by decide) ?_
          refine ev_icmp_ge (tgt := 59) dX7_apart_15 (by decide) (fun _ => ?_) (fun c => absurd (by decide) c)
          refine ev_iload_n dX7_apart_59 rfl rfl ?_
          refine ev_iload_n dX7_apart_60 rfl rfl ?_
          refine ev_isub (v := (s_sc A (s_se A 1) (A 73 1) (fun q => Nat.testBit m q)) - (s_sc A (s_se A 0) (A 73 0) (fun q => Nat.testBit m q))) dX7_apart_61 rfl ?_
          refine ev_reti dX7_apart_62 rfl (Nat.zero_le _) (Nat.zero_le _) ?_
          exact ⟨by unfold s_ap s_a3 s_mx s_mn s_scF; simp [c3, Int32.not_le.mp c3, c13, Int32.not_lt.mpr c13, c15, Int32.not_lt.mpr c15, c16, Int32.not_lt.mpr c16], hI14, (fr_M.tr (fr_M.tr (fr_M.tr fr_M.rf hF1) hF2) hF14)⟩
        · skip
          refine ev_iload dX7_apart_46 rfl ?_
          refine ev_goto (tgt := 52) dX7_apart_48 (by decide) ?_
          refine ev_istore_n (lv' := [(0, .ref 65), (1, .int (nI m)), (2, .int (s_sc A (s_se A 1) (A 73 1) (fun q => Nat.testBit m q))), (3, .int (s_sc A (s_se A 2) (A 73 2) (fun q => Nat.testBit m q))), (4, .int 2), (5, .int (s_sc A (s_se A 2) (A 73 2) (fun q => Nat.testBit m q)))]) dX7_apart_52 rfl (by decide) rfl ?_
          refine ev_iinc (lv' := [(0, .ref 65), (1, .int (nI m)), (2, .int (s_sc A (s_se A 1) (A 73 1) (fun q => Nat.testBit m q))), (3, .int (s_sc A (s_se A 2) (A 73 2) (fun q => Nat.testBit m q))), (4, .int 3), (5, .int (s_sc A (s_se A 2) (A 73 2) (fun q => Nat.testBit m q)))]) (v := 3) dX7_apart_53 rfl (by decide) (by decide) rfl ?_
          refine ev_goto (tgt := 12) dX7_apart_56 (by decide) ?_
          refine ev_iload dX7_apart_12 rfl ?_
          refine ev_iconst (v := 3) dX7_apart_14 (by decide) ?_
          refine ev_icmp_ge (tgt := 59) dX7_apart_15 (by decide) (fun _ => ?_) (fun c => absurd (by decide) c)
          refine ev_iload_n dX7_apart_59 rfl rfl ?_
          refine ev_iload_n dX7_apart_60 rfl rfl ?_
          refine ev_isub (v := (s_sc A (s_se A 1) (A 73 1) (fun q => Nat.testBit m q)) - (s_sc A (s_se A 2) (A 73 2) (fun q => Nat.testBit m q))) dX7_apart_61 rfl ?_
          refine ev_reti dX7_apart_62 rfl (Nat.zero_le _) (Nat.zero_le _) ?_
          exact ⟨by unfold s_ap s_a3 s_mx s_mn s_scF; simp [c3, Int32.not_le.mp c3, c13, Int32.not_lt.mpr c13, c15, Int32.not_lt.mpr c15, c16, Int32.not_le.mp c16], hI14, (fr_M.tr (fr_M.tr (fr_M.tr fr_M.rf hF1) hF2) hF14)⟩
      · skip
        refine ev_iload dX7_apart_33 rfl ?_
        refine ev_goto (tgt := 39) dX7_apart_35 (by decide) ?_
        refine ev_istore_n (lv' := [(0, .ref 65), (1, .int (nI m)), (2, .int (s_sc A (s_se A 2) (A 73 2) (fun q => Nat.testBit m q))), (3, .int (s_sc A (s_se A 0) (A 73 0) (fun q => Nat.testBit m q))), (4, .int 2), (5, .int (s_sc A (s_se A 2) (A 73 2) (fun q => Nat.testBit m q)))]) dX7_apart_39 rfl (by decide) rfl ?_
        refine ev_iload dX7_apart_40 rfl ?_
        refine ev_iload_n dX7_apart_42 rfl rfl ?_
        refine ev_icmp_ge (tgt := 51) dX7_apart_43 (by decide) (fun c17 => ?_) (fun c17 => ?_)
        · skip
          refine ev_iload_n dX7_apart_51 rfl rfl ?_
          refine ev_istore_n (lv' := [(0, .ref 65), (1, .int (nI m)), (2, .int (s_sc A (s_se A 2) (A 73 2) (fun q => Nat.testBit m q))), (3, .int (s_sc A (s_se A 0) (A 73 0) (fun q => Nat.testBit m q))), (4, .int 2), (5, .int (s_sc A (s_se A 2) (A 73 2) (fun q => Nat.testBit m q)))]) dX7_apart_52 rfl (by decide) rfl ?_
          refine ev_iinc (lv' := [(0, .ref 65), (1, .int (nI m)), (2, .int (s_sc A (s_se A 2) (A 73 2) (fun q => Nat.testBit m q))), (3, .int (s_sc A (s_se A 0) (A 73 0) (fun q => Nat.testBit m q))), (4, .int 3), (5, .int (s_sc A (s_se A 2) (A 73 2) (fun q => Nat.testBit m q)))]) (v := 3) dX7_apart_53 rfl (by decide) (by decide) rfl ?_
          refine ev_goto (tgt := 12) dX7_apart_56 (by decide) ?_
          refine ev_iload dX7_apart_12 rfl ?_
          refine ev_iconst (v := 3) dX7_apart_14 (by decide) ?_
          refine ev_icmp_ge (tgt := 59) dX7_apart_15 (by decide) (fun _ => ?_) (fun c => absurd (by decide) c)
          refine ev_iload_n dX7_apart_59 rfl rfl ?_
          refine ev_iload_n dX7_apart_60 rfl rfl ?_
          refine ev_isub (v := (s_sc A (s_se A 2) (A 73 2) (fun q => Nat.testBit m q)) - (s_sc A (s_se A 0) (A 73 0) (fun q => Nat.testBit m q))) dX7_apart_61 rfl ?_
          refine ev_reti dX7_apart_62 rfl (Nat.zero_le _) (Nat.zero_le _) ?_
          exact ⟨by unfold s_ap s_a3 s_mx s_mn s_scF; simp [c3, Int32.not_le.mp c3, c13, Int32.not_lt.mpr c13, c15, Int32.not_le.mp c15, c17, Int32.not_lt.mpr c17], hI14, (fr_M.tr (fr_M.tr (fr_M.tr fr_M.rf hF1) hF2) hF14)⟩
        · skip
          refine ev_iload dX7_apart_46 rfl ?_
          refine ev_goto (tgt := 52) dX7_apart_48 (by decide) ?_
          refine ev_istore_n (lv' := [(0, .ref 65), (1, .int (nI m)), (2, .int (s_sc A (s_se A 2) (A 73 2) (fun q => Nat.testBit m q))), (3, .int (s_sc A (s_se A 2) (A 73 2) (fun q => Nat.testBit m q))), (4, .int 2), (5, .int (s_sc A (s_se A 2) (A 73 2) (fun q => Nat.testBit m q)))]) dX7_apart_52 rfl (by decide) rfl ?_
          refine ev_iinc (lv' := [(0, .ref 65), (1, .int (nI m)), (2, .int (s_sc A (s_se A 2) (A 73 2) (fun q => Nat.testBit m q))), (3, .int (s_sc A (s_se A 2) (A 73 2) (fun q => Nat.testBit m q))), (4, .int 3), (5, .int (s_sc A (s_se A 2) (A 73 2) (fun q => Nat.testBit m q)))]) (v := 3) dX7_apart_53 rfl (by decide) (by decide) rfl ?_
          refine ev_goto (tgt := 12) dX7_apart_56 (by decide) ?_
          refine ev_iload dX7_apart_12 rfl ?_
          refine ev_iconst (v := 3) dX7_apart_14 (by decide) ?_
          refine ev_icmp_ge (tgt := 59) dX7_apart_15 (by decide) (fun _ => ?_) (fun c => absurd (by decide) c)
          refine ev_iload_n dX7_apart_59 rfl rfl ?_
          refine ev_iload_n dX7_apart_60 rfl rfl ?_
          refine ev_isub (v := (s_sc A (s_se A 2) (A 73 2) (fun q => Nat.testBit m q)) - (s_sc A (s_se A 2) (A 73 2) (fun q => Nat.testBit m q))) dX7_apart_61 rfl ?_
          refine ev_reti dX7_apart_62 rfl (Nat.zero_le _) (Nat.zero_le _) ?_
          exact ⟨by unfold s_ap s_a3 s_mx s_mn s_scF; simp [c3, Int32.not_le.mp c3, c13, Int32.not_lt.mpr c13, c15, Int32.not_le.mp c15, c17, Int32.not_le.mp c17], hI14, (fr_M.tr (fr_M.tr (fr_M.tr fr_M.rf hF1) hF2) hF14)⟩
    · skip
      refine ev_iload dX7_apart_46 rfl ?_
      refine ev_goto (tgt := 52) dX7_apart_48 (by decide) ?_
      refine ev_istore_n (lv' := [(0, .ref 65), (1, .int (nI m)), (2, .int (s_sc A (s_se A 1) (A 73 1) (fun q => Nat.testBit m q))), (3, .int (s_sc A (s_se A 1) (A 73 1) (fun q => Nat.testBit m q))), (4, .int 1), (5, .int (s_sc A (s_se A 1) (A 73 1) (fun q => Nat.testBit m q)))]) dX7_apart_52 rfl (by decide) rfl ?_
      refine ev_iinc (lv' := [(0, .ref 65), (1, .int (nI m)), (2, .int (s_sc A (s_se A 1) (A 73 1) (fun q => Nat.testBit m q))), (3, .int (s_sc A (s_se A 1) (A 73 1) (fun q => Nat.testBit m q))), (4, .int 2), (5, .int (s_sc A (s_se A 1) (A 73 1) (fun q => Nat.testBit m q)))]) (v := 2) dX7_apart_53 rfl (by decide) (by decide) rfl ?_
      refine ev_goto (tgt := 12) dX7_apart_56 (by decide) ?_
      refine ev_iload dX7_apart_12 rfl ?_
      refine ev_iconst (v := 3) dX7_apart_14 (by decide) ?_
      refine ev_icmp_ge (tgt := 59) dX7_apart_15 (by decide) (fun c => absurd c (by decide)) (fun _ => ?_)
      refine ev_aload_n dX7_apart_18 rfl rfl ?_
      refine ev_iload dX7_apart_19 rfl ?_
      refine ev_iload_n dX7_apart_21 rfl rfl ?_
      refine ev_callV (as := [.int 2, .int (nI m)]) (st := []) dX7_apart_22 mfX7_scoreOf lk_X7_214 (ly_k hI2.ly 65 rfl) (by decide) rfl (c_X7_scoreOf G D A σ2 hA hI2 2 m (by omega) (by omega)) rfl rfl (Nat.le_of_ble_eq_true rfl) (am_hR (by omega) (by decide)) ⟨Nat.le_refl _, Nat.le_refl _⟩ ?_
      rintro _ σ18 ⟨rfl, hI18, hF18⟩
      refine ev_istore (lv' := [(0, .ref 65), (1, .int (nI m)), (2, .int (s_sc A (s_se A 1) (A 73 1) (fun q => Nat.testBit m q))), (3, .int (s_sc A (s_se A 1) (A 73 1) (fun q => Nat.testBit m q))), (4, .int 2), (5, .int (s_sc A (s_se A 2) (A 73 2) (fun q => Nat.testBit m q)))]) dX7_apart_25 (by decide) rfl ?_
      refine ev_iload dX7_apart_27 rfl ?_
      refine ev_iload_n dX7_apart_29 rfl rfl ?_
      refine ev_icmp_le (tgt := 38) dX7_apart_30 (by decide) (fun c19 => ?_) (fun c19 => ?_)
      · skip
        refine ev_iload_n dX7_apart_38 rfl rfl ?_
        refine ev_istore_n (lv' := [(0, .ref 65), (1, .int (nI m)), (2, .int (s_sc A (s_se A 1) (A 73 1) (fun q => Nat.testBit m q))), (3, .int (s_sc A (s_se A 1) (A 73 1) (fun q => Nat.testBit m q))), (4, .int 2), (5, .int (s_sc A (s_se A 2) (A 73 2) (fun q => Nat.testBit m q)))]) dX7_apart_39 rfl (by decide) rfl ?_
        refine ev_iload dX7_apart_40 rfl ?_
        refine ev_iload_n dX7_apart_42 rfl rfl ?_
        refine ev_icmp_ge (tgt := 51) dX7_apart_43 (by decide) (fun c20 => ?_) (fun c20 => ?_)
        · skip
          refine ev_iload_n dX7_apart_51 rfl rfl ?_
          refine ev_istore_n (lv' := [(0, .ref 65), (1, .int (nI m)), (2, .int (s_sc A (s_se A 1) (A 73 1) (fun q => Nat.testBit m q))), (3, .int (s_sc A (s_se A 1) (A 73 1) (fun q => Nat.testBit m q))), (4, .int 2), (5, .int (s_sc A (s_se A 2) (A 73 2) (fun q => Nat.testBit m q)))]) dX7_apart_52 rfl (by decide) rfl ?_
          refine ev_iinc (lv' := [(0, .ref 65), (1, .int (nI m)), (2, .int (s_sc A (s_se A 1) (A 73 1) (fun q => Nat.testBit m q))), (3, .int (s_sc A (s_se A 1) (A 73 1) (fun q => Nat.testBit m q))), (4, .int 3), (5, .int (s_sc A (s_se A 2) (A 73 2) (fun q => Nat.testBit m q)))]) (v := 3) dX7_apart_53 rfl (by decide) (by decide) rfl ?_
          refine ev_goto (tgt := 12) dX7_apart_56 (by decide) ?_
          refine ev_iload dX7_apart_12 rfl ?_
          refine ev_iconst (v := 3) dX7_apart_14 (by decide) ?_
          refine ev_icmp_ge (tgt := 59) dX7_apart_15 (by decide) (fun _ => ?_) (fun c => absurd (by decide) c)
          refine ev_iload_n dX7_apart_59 rfl rfl ?_
          refine ev_iload_n dX7_apart_60 rfl rfl ?_
          refine ev_isub (v := (s_sc A (s_se A 1) (A 73 1) (fun q => Nat.testBit m q)) - (s_sc A (s_se A 1) (A 73 1) (fun q => Nat.testBit m q))) dX7_apart_61 rfl ?_
          refine ev_reti dX7_apart_62 rfl (Nat.zero_le _) (Nat.zero_le _) ?_
          exact ⟨by unfold s_ap s_a3 s_mx s_mn s_scF; simp [c3, Int32.not_le.mp c3, c13, Int32.not_le.mp c13, c19, Int32.not_lt.mpr c19, c20, Int32.not_lt.mpr c20], hI18, (fr_M.tr (fr_M.tr (fr_M.tr fr_M.rf hF1) hF2) hF18)⟩
        · skip
          refine ev_iload dX7_apart_46 rfl ?_
          refine ev_goto (tgt := 52) dX7_apart_48 (by decide) ?_
          refine ev_istore_n (lv' := [(0, .ref 65), (1, .int (nI m)), (2, .int (s_sc A (s_se A 1) (A 73 1) (fun q => Nat.testBit m q))), (3, .int (s_sc A (s_se A 2) (A 73 2) (fun q => Nat.testBit m q))), (4, .int 2), (5, .int (s_sc A (s_se A 2) (A 73 2) (fun q => Nat.testBit m q)))]) dX7_apart_52 rfl (by decide) rfl ?_
          refine ev_iinc (lv' := [(0, .ref 65), (1, .int (nI m)), (2, .int (s_sc A (s_se A 1) (A 73 1) (fun q => Nat.testBit m q))), (3, .int (s_sc A (s_se A 2) (A 73 2) (fun q => Nat.testBit m q))), (4, .int 3), (5, .int (s_sc A (s_se A 2) (A 73 2) (fun q => Nat.testBit m q)))]) (v := 3) dX7_apart_53 rfl (by decide) (by decide) rfl ?_
          refine ev_goto (tgt := 12) dX7_apart_56 (by decide) ?_
          refine ev_iload dX7_apart_12 rfl ?_
          refine ev_iconst (v := 3) dX7_apart_14 (by decide) ?_
          refine ev_icmp_ge (tgt := 59) dX7_apart_15 (by decide) (fun _ => ?_) (fun c => absurd (by decide) c)
          refine ev_iload_n dX7_apart_59 rfl rfl ?_
          refine ev_iload_n dX7_apart_60 rfl rfl ?_
          refine ev_isub (v := (s_sc A (s_se A 1) (A 73 1) (fun q => Nat.testBit m q)) - (s_sc A (s_se A 2) (A 73 2) (fun q => Nat.testBit m q))) dX7_apart_61 rfl ?_
          refine ev_reti dX7_apart_62 rfl (Nat.zero_le _) (Nat.zero_le _) ?_
          exact ⟨by unfold s_ap s_a3 s_mx s_mn s_scF; simp [c3, Int32.not_le.mp c3, c13, Int32.not_le.mp c13, c19, Int32.not_lt.mpr c19, c20, Int32.not_le.mp c20], hI18, (fr_M.tr (fr_M.tr (fr_M.tr fr_M.rf hF1) hF2) hF18)⟩
      · skip
        refine ev_iload dX7_apart_33 rfl ?_
        refine ev_goto (tgt := 39) dX7_apart_35 (by decide) ?_
        refine ev_istore_n (lv' := [(0, .ref 65), (1, .int (nI m)), (2, .int (s_sc A (s_se A 2) (A 73 2) (fun q => Nat.testBit m q))), (3, .int (s_sc A (s_se A 1) (A 73 1) (fun q => Nat.testBit m q))), (4, .int 2), (5, .int (s_sc A (s_se A 2) (A 73 2) (fun q => Nat.testBit m q)))]) dX7_apart_39 rfl (by decide) rfl ?_
        refine ev_iload dX7_apart_40 rfl ?_
        refine ev_iload_n dX7_apart_42 rfl rfl ?_
        refine ev_icmp_ge (tgt := 51) dX7_apart_43 (by decide) (fun c21 => ?_) (fun c21 => ?_)
        · skip
          refine ev_iload_n dX7_apart_51 rfl rfl ?_
          refine ev_istore_n (lv' := [(0, .ref 65), (1, .int (nI m)), (2, .int (s_sc A (s_se A 2) (A 73 2) (fun q => Nat.testBit m q))), (3, .int (s_sc A (s_se A 1) (A 73 1) (fun q => Nat.testBit m q))), (4, .int 2), (5, .int (s_sc A (s_se A 2) (A 73 2) (fun q => Nat.testBit m q)))]) dX7_apart_52 rfl (by decide) rfl ?_
          refine ev_iinc (lv' := [(0, .ref 65), (1, .int (nI m)), (2, .int (s_sc A (s_se A 2) (A 73 2) (fun q => Nat.testBit m q))), (3, .int (s_sc A (s_se A 1) (A 73 1) (fun q => Nat.testBit m q))), (4, .int 3), (5, .int (s_sc A (s_se A 2) (A 73 2) (fun q => Nat.testBit m q)))]) (v := 3) dX7_apart_53 rfl (by decide) (by decide) rfl ?_
          refine ev_goto (tgt := 12) dX7_apart_56 (by decide) ?_
          refine ev_iload dX7_apart_12 rfl ?_
          refine ev_iconst (v := 3) dX7_apart_14 (by decide) ?_
          refine ev_icmp_ge (tgt := 59) dX7_apart_15 (by decide) (fun _ => ?_) (fun c => absurd (by decide) c)
          refine ev_iload_n dX7_apart_59 rfl rfl ?_
          refine ev_iload_n dX7_apart_60 rfl rfl ?_
          refine ev_isub (v := (s_sc A (s_se A 2) (A 73 2) (fun q => Nat.testBit m q)) - (s_sc A (s_se A 1) (A 73 1) (fun q => Nat.testBit m q))) dX7_apart_61 rfl ?_
          refine ev_reti dX7_apart_62 rfl (Nat.zero_le _) (Nat.zero_le _) ?_
          exact ⟨by unfold s_ap s_a3 s_mx s_mn s_scF; simp [c3, Int32.not_le.mp c3, c13, Int32.not_le.mp c13, c19, Int32.not_le.mp c19, c21, Int32.not_lt.mpr c21], hI18, (fr_M.tr (fr_M.tr (fr_M.tr fr_M.rf hF1) hF2) hF18)⟩
        · skip
          refine ev_iload dX7_apart_46 rfl ?_
          refine ev_goto (tgt := 52) dX7_apart_48 (by decide) ?_
          refine ev_istore_n (lv' := [(0, .ref 65), (1, .int (nI m)), (2, .int (s_sc A (s_se A 2) (A 73 2) (fun q => Nat.testBit m q))), (3, .int (s_sc A (s_se A 2) (A 73 2) (fun q => Nat.testBit m q))), (4, .int 2), (5, .int (s_sc A (s_se A 2) (A 73 2) (fun q => Nat.testBit m q)))]) dX7_apart_52 rfl (by decide) rfl ?_
          refine ev_iinc (lv' := [(0, .ref 65), (1, .int (nI m)), (2, .int (s_sc A (s_se A 2) (A 73 2) (fun q => Nat.testBit m q))), (3, .int (s_sc A (s_se A 2) (A 73 2) (fun q => Nat.testBit m q))), (4, .int 3), (5, .int (s_sc A (s_se A 2) (A 73 2) (fun q => Nat.testBit m q)))]) (v := 3) dX7_apart_53 rfl (by decide) (by decide) rfl ?_
          refine ev_goto (tgt := 12) dX7_apart_56 (by decide) ?_
          refine ev_iload dX7_apart_12 rfl ?_
          refine ev_iconst (v := 3) dX7_apart_14 (by decide) ?_
          refine ev_icmp_ge (tgt := 59) dX7_apart_15 (by decide) (fun _ => ?_) (fun c => absurd (by decide) c)
          refine ev_iload_n dX7_apart_59 rfl rfl ?_
          refine ev_iload_n dX7_apart_60 rfl rfl ?_
          refine ev_isub (v := (s_sc A (s_se A 2) (A 73 2) (fun q => Nat.testBit m q)) - (s_sc A (s_se A 2) (A 73 2) (fun q => Nat.testBit m q))) dX7_apart_61 rfl ?_
          refine ev_reti dX7_apart_62 rfl (Nat.zero_le _) (Nat.zero_le _) ?_
          exact ⟨by unfold s_ap s_a3 s_mx s_mn s_scF; simp [c3, Int32.not_le.mp c3, c13, Int32.not_le.mp c13, c19, Int32.not_le.mp c19, c21, Int32.not_le.mp c21], hI18, (fr_M.tr (fr_M.tr (fr_M.tr fr_M.rf hF1) hF2) hF18)⟩

set_option maxHeartbeats 400000 in
set_option maxRecDepth 100000 in
theorem c_X7_evening (G : am_G) (D : Nat) (A : am_S) (σ : am_M) (hA : wf_A A) (hI : iv_M A σ) (w : Int32) : am_Mt G (D + 10) mX7_evening [.ref 65, .int w] σ 0 0 (am_qM A (.int (sp_evening A w)) σ) := by
  have b7 := wf_np7 hA
  have b8 := wf_nq8 hA
  have b6 := wf_nt6 hA
  have b61 := wf_nt1 hA
  have b160 := wf_tp160 hA
  have brl := wf_rlt hA
  refine am_of moX7_evening (Nat.le_of_ble_eq_true rfl) ?_
  show am_Ev G mX7_evening (am_R (D + 10) 0 0) 0 0 (am_qM A (.int (sp_evening A w)) σ) 0 [(0, .ref 65), (1, .int w)] [] σ 0 0
  refine ev_iload_n dX7_evening_0 rfl rfl ?_
  refine ev_if_ne (tgt := 11) dX7_evening_1 (by decide) (fun c1 => ?_) (fun c1 => ?_)
  · skip
    refine ev_iload_n dX7_evening_11 rfl rfl ?_
    refine ev_iconst (v := 1) dX7_evening_12 (by decide) ?_
    refine ev_icmp_ne (tgt := 27) dX7_evening_13 (by decide) (fun c2 => ?_) (fun c2 => ?_)
    · skip
      refine ev_bipush (v := (-2)) dX7_evening_27 (by decide) ?_
      refine ev_reti dX7_evening_29 rfl (Nat.zero_le _) (Nat.zero_le _) ?_
      exact ⟨by simp [sp_evening, c1, c2], hI, fr_M.rf⟩
    · skip
      refine ev_aload_n dX7_evening_16 rfl rfl ?_
      refine ev_aload_n dX7_evening_17 rfl rfl ?_
      refine ev_callV (as := []) (st := [.ref 65]) dX7_evening_18 mfX7_all lk_X7_211 (ly_k hI.ly 65 rfl) (by decide) rfl (c_X7_all G (D + 9) A σ hA hI ) rfl rfl (Nat.le_of_ble_eq_true rfl) (am_hR (by omega) (by decide)) ⟨Nat.le_refl _, Nat.le_refl _⟩ ?_
      rintro _ _ ⟨rfl, rfl⟩
      refine ev_callV (as := [.int (nI (2 ^ s_nq A - 1))]) (st := []) dX7_evening_21 mfX7_apart lk_X7_229 (ly_k hI.ly 65 rfl) (by decide) rfl (c_X7_apart G (D + 1) A σ hA hI (2 ^ s_nq A - 1) (Nat.lt_of_le_of_lt (Nat.sub_le _ _) (Nat.pow_lt_pow_right (by decide) (by omega)))) rfl rfl (Nat.le_of_ble_eq_true rfl) (am_hR (by omega) (by decide)) ⟨Nat.le_refl _, Nat.le_refl _⟩ ?_
      rintro _ σ3 ⟨rfl, hI3, hF3⟩
      refine ev_goto (tgt := 29) dX7_evening_24 (by decide) ?_
      refine ev_reti dX7_evening_29 rfl (Nat.zero_le _) (Nat.zero_le _) ?_
      exact ⟨by rw [s_apT]; simp [sp_evening, c1, c2], hI3, (fr_M.tr fr_M.rf hF3)⟩
  · skip
    refine ev_aload_n dX7_evening_4 rfl rfl ?_
    refine ev_callV (as := []) (st := []) dX7_evening_5 mfX7_winner lk_X7_226 (ly_k hI.ly 65 rfl) (by decide) rfl (c_X7_winner G D A σ hA hI ) rfl rfl (Nat.le_of_ble_eq_true rfl) (am_hR (by omega) (by decide)) ⟨Nat.le_refl _, Nat.le_refl _⟩ ?_
    rintro _ σ4 ⟨rfl, hI4, hF4⟩
    refine ev_goto (tgt := 29) dX7_evening_8 (by decide) ?_
    refine ev_reti dX7_evening_29 rfl (Nat.zero_le _) (Nat.zero_le _) ?_
    exact ⟨by simp [sp_evening, c1], hI4, (fr_M.tr fr_M.rf hF4)⟩

set_option maxHeartbeats 400000 in
set_option maxRecDepth 100000 in
theorem c_X7_scoreWith (G : am_G) (D : Nat) (A : am_S) (σ : am_M) (hA : wf_A A) (hI : iv_M A σ) (T p : Nat) (s : Int32) (hT : T < 3) (hp : p < s_np A) (hs : s = -1 ∨ am_rg s 3) : am_Mt G (D + 9) mX7_scoreWith [.ref 65, .int (nI T), .int (nI p), .int s] σ 0 0 (am_qM A (.int (s_wi A T p s)) σ) := by
  have b7 := wf_np7 hA
  have b8 := wf_nq8 hA
  have b6 := wf_nt6 hA
  have b61 := wf_nt1 hA
  have b160 := wf_tp160 hA
  have brl := wf_rlt hA
  refine am_of moX7_scoreWith (Nat.le_of_ble_eq_true rfl) ?_
  show am_Ev G mX7_scoreWith (am_R (D + 9) 0 0) 0 0 (am_qM A (.int (s_wi A T p s)) σ) 0 [(0, .ref 65), (1, .int (nI T)), (2, .int (nI p)), (3, .int s)] [] σ 0 0
  refine ev_aload_n dX7_scoreWith_0 rfl rfl ?_
  refine ev_getR (b := 69) dX7_scoreWith_1 fl_X7_19 (ly_k hI.ly 65 rfl) (ly_r hI.ly 32 rfl) ?_
  refine ev_iload_n dX7_scoreWith_4 rfl rfl ?_
  refine ev_iald (v := A 69 p) dX7_scoreWith_5 (ly_k hI.ly 69 rfl) (am_ixn (by omega) (by decide)) (hI.rd 69 p rfl) ?_
  refine ev_istore (lv' := [(0, .ref 65), (1, .int (nI T)), (2, .int (nI p)), (3, .int s), (4, .int (A 69 p))]) dX7_scoreWith_6 (by decide) rfl ?_
  refine ev_aload_n dX7_scoreWith_8 rfl rfl ?_
  refine ev_getR (b := 69) dX7_scoreWith_9 fl_X7_19 (ly_k hI.ly 65 rfl) (ly_r hI.ly 32 rfl) ?_
  refine ev_iload_n dX7_scoreWith_12 rfl rfl ?_
  refine ev_iload_n dX7_scoreWith_13 rfl rfl ?_
  refine ev_iast dX7_scoreWith_14 (ly_k hI.ly 69 rfl) (am_ixn (by omega) (by decide)) ?_
  refine ev_aload_n dX7_scoreWith_15 rfl rfl ?_
  refine ev_iload_n dX7_scoreWith_16 rfl rfl ?_
  refine ev_callV (as := [.int (nI T)]) (st := []) dX7_scoreWith_17 mfX7_scoreNow lk_X7_217 (ly_k (iv_M.up hI).ly 65 rfl) (by decide) rfl (c_X7_scoreNow G D (am_up A 69 p s) (am_sI σ 69 p s) (wf_69 hA hs) (iv_M.up hI) T (by omega)) rfl rfl (Nat.le_of_ble_eq_true rfl) (am_hR (by omega) (by decide)) ⟨Nat.le_refl _, Nat.le_refl _⟩ ?_
  rintro _ σ1 ⟨rfl, hI1, hF1⟩
  refine ev_istore (lv' := [(0, .ref 65), (1, .int (nI T)), (2, .int (nI p)), (3, .int s), (4, .int (A 69 p)), (5, .int (s_now (am_up A 69 p s) T))]) dX7_scoreWith_20 (by decide) rfl ?_
  refine ev_aload_n dX7_scoreWith_22 rfl rfl ?_
  refine ev_getR (b := 69) dX7_scoreWith_23 fl_X7_19 (ly_k hI1.ly 65 rfl) (ly_r hI1.ly 32 rfl) ?_
  refine ev_iload_n dX7_scoreWith_26 rfl rfl ?_
  refine ev_iload dX7_scoreWith_27 rfl ?_
  refine ev_iast dX7_scoreWith_29 (ly_k hI1.ly 69 rfl) (am_ixn (by omega) (by decide)) ?_
  refine ev_iload dX7_scoreWith_30 rfl ?_
  refine ev_reti dX7_scoreWith_32 rfl (Nat.zero_le _) (Nat.zero_le _) ?_
  have e : am_up (am_up A 69 p s) 69 p (A 69 p) = A := by rw [am_uw2]; exact am_uu rfl
  exact ⟨rfl, iv_M.cg (iv_M.up hI1) (fun a i _ => by rw [e]), (fr_M.wr (by decide) (fr_M.tr (fr_M.wr (by decide) fr_M.rf) hF1))⟩

