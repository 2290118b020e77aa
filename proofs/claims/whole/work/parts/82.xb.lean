/-! the class: what is told, questions, jokers, seats, sheets -/
theorem s_b20 {b : Bool} : s_b2 b = 0 ↔ b = false := by cases b <;> decide
theorem am_bd9 {V : Nat} (h : V < 10) : am_bd (nI V) 0 9 = nI V := am_bdN (b := 9) (by omega) (by decide)
theorem am_bd40 {V : Nat} (h : V ≤ 40) : am_bd (nI V) 0 40 = nI V := am_bdN (b := 40) (by omega) (by decide)
set_option maxHeartbeats 400000 in
set_option maxRecDepth 100000 in
theorem c_X6_count (G : am_G) (D : Nat) (A : am_S) (σ : am_M) (hX : iv_X A σ) (v : Int32) : am_Mt G D mX6_count [.ref 32, .int v] σ 0 0 (am_q (.int (sp_count A v)) σ) := by
  refine am_of moX6_count (Nat.le_of_ble_eq_true rfl) ?_
  show am_Ev G mX6_count (am_R D 0 0) 0 0 (am_q (.int (sp_count A v)) σ) 0 [(0, .ref 32), (1, .int v)] [] σ 0 0
  refine ev_iload_n dX6_count_0 rfl rfl ?_
  by_cases c1 : v = 0 ∨ v = 1 ∨ v = 2 ∨ v = 3 ∨ v = 4
  · rcases c1 with c1 | c1 | c1 | c1 | c1
    · subst c1
      refine ev_tableIn (tgt := 36) (off := 35) dX6_count_1 (by decide) (by decide) rfl (by decide) ?_
      refine ev_aload_n dX6_count_36 rfl rfl ?_
      refine ev_getI (v := A 65 0) dX6_count_37 fl_X6_85 (ly_k hX.ly 32 rfl) hX.f12 ?_
      refine ev_reti dX6_count_40 rfl (Nat.zero_le _) (Nat.zero_le _) ?_
      exact ⟨by simp_all [sp_count], rfl⟩
    · subst c1
      refine ev_tableIn (tgt := 41) (off := 40) dX6_count_1 (by decide) (by decide) rfl (by decide) ?_
      refine ev_aload_n dX6_count_41 rfl rfl ?_
      refine ev_getI (v := A 65 6) dX6_count_42 fl_X6_88 (ly_k hX.ly 32 rfl) hX.f13 ?_
      refine ev_reti dX6_count_45 rfl (Nat.zero_le _) (Nat.zero_le _) ?_
      exact ⟨by simp_all [sp_count], rfl⟩
    · subst c1
      refine ev_tableIn (tgt := 46) (off := 45) dX6_count_1 (by decide) (by decide) rfl (by decide) ?_
      refine ev_aload_n dX6_count_46 rfl rfl ?_
      refine ev_getI (v := A 65 14) dX6_count_47 fl_X6_81 (ly_k hX.ly 32 rfl) hX.f14 ?_
      refine ev_reti dX6_count_50 rfl (Nat.zero_le _) (Nat.zero_le _) ?_
      exact ⟨by simp_all [sp_count], rfl⟩
    · subst c1
      refine ev_tableIn (tgt := 51) (off := 50) dX6_count_1 (by decide) (by decide) rfl (by decide) ?_
      refine ev_aload_n dX6_count_51 rfl rfl ?_
      refine ev_getI (v := A 65 15) dX6_count_52 fl_X6_91 (ly_k hX.ly 32 rfl) hX.f15 ?_
      refine ev_reti dX6_count_55 rfl (Nat.zero_le _) (Nat.zero_le _) ?_
      exact ⟨by simp_all [sp_count], rfl⟩
    · subst c1
      refine ev_tableIn (tgt := 56) (off := 55) dX6_count_1 (by decide) (by decide) rfl (by decide) ?_
      refine ev_aload_n dX6_count_56 rfl rfl ?_
      refine ev_getR (b := 38) dX6_count_57 fl_X6_34 (ly_k hX.ly 32 rfl) (ly_r hX.ly 5 rfl) ?_
      refine ev_getI (v := A 65 11) dX6_count_60 fl_X6_94 (ly_k hX.ly 38 rfl) hX.f38 ?_
      refine ev_reti dX6_count_63 rfl (Nat.zero_le _) (Nat.zero_le _) ?_
      exact ⟨by simp_all [sp_count], rfl⟩
  · skip
    refine ev_tableOut (tgt := 64) dX6_count_1 (by simp [← Int32.toInt_inj] at c1; omega) (by decide) ?_
    refine ev_bipush (v := (-2)) dX6_count_64 (by decide) ?_
    refine ev_reti dX6_count_66 rfl (Nat.zero_le _) (Nat.zero_le _) ?_
    exact ⟨by simp_all [sp_count], rfl⟩

set_option maxHeartbeats 400000 in
set_option maxRecDepth 100000 in
theorem c_X6_told (G : am_G) (D : Nat) (A : am_S) (σ : am_M) (hA : wf_A A) (hX : iv_X A σ) (p v : Int32) : am_Mt G (D + 3) mX6_told [.ref 32, .int p, .int v] σ 0 0 (am_q (.int (sp_told A p v)) σ) := by
  have b7 := wf_np7 hA
  have b8 := wf_nq8 hA
  have b6 := wf_nt6 hA
  have b61 := wf_nt1 hA
  have b160 := wf_tp160 hA
  have brl := wf_rlt hA
  refine am_of moX6_told (Nat.le_of_ble_eq_true rfl) ?_
  show am_Ev G mX6_told (am_R (D + 3) 0 0) 0 0 (am_q (.int (sp_told A p v)) σ) 0 [(0, .ref 32), (1, .int p), (2, .int v)] [] σ 0 0
  refine ev_aload_n dX6_told_0 rfl rfl ?_
  refine ev_iload_n dX6_told_1 rfl rfl ?_
  refine ev_callV (as := [.int p]) (st := []) dX6_told_2 mfX6_personAt lk_X6_128 (ly_k hX.ly 32 rfl) (by decide) rfl (c_X6_personAt G (D + 2) A σ hA hX p) rfl rfl (Nat.le_of_ble_eq_true rfl) (am_hR (by omega) (by decide)) ⟨Nat.le_refl _, Nat.le_refl _⟩ ?_
  rintro _ _ (⟨P1, g1, rfl, hP1, hg1, rfl, rfl⟩ | ⟨hn1, rfl, rfl⟩)
  · skip
    have h91 := hX.g9 hP1 hg1
    refine ev_astore_n (lv' := [(0, .ref 32), (1, .int (nI P1)), (2, .int v), (3, .ref g1)]) dX6_told_5 rfl (by decide) rfl ?_
    refine ev_aload_n dX6_told_6 rfl rfl ?_
    refine ev_ifnonnullR (tgt := 13) dX6_told_7 (by decide) ?_
    refine ev_iload_n dX6_told_13 rfl rfl ?_
    refine ev_callS (as := [.int v]) (st := []) dX6_told_14 mfX6_isTopic lk_X6_132 (c_X6_isTopic G (D + 2) σ v) rfl rfl (Nat.le_of_ble_eq_true rfl) (am_hR (by omega) (by decide)) ⟨Nat.le_refl _, Nat.le_refl _⟩ ?_
    rintro _ _ (⟨⟨j2, h2, rfl⟩, rfl, rfl⟩ | ⟨h2, rfl, rfl⟩)
    · skip
      refine ev_if_eq (tgt := 26) dX6_told_17 (by decide) (fun c => absurd c (by decide)) (fun _ => ?_)
      refine ev_aload_n dX6_told_20 rfl rfl ?_
      refine ev_iload_n dX6_told_21 rfl rfl ?_
      refine ev_callV (as := [.int (nI j2)]) (st := []) dX6_told_22 mfX1_deepAt lk_X6_135 (hX.gk hP1 hg1) (by decide) rfl (c_X1_deepAtN G (D + 1) A σ hA hX P1 g1 hP1 hg1 j2 (by omega)) rfl rfl (Nat.le_of_ble_eq_true rfl) (am_hR (by omega) (by decide)) ⟨Nat.le_refl _, Nat.le_refl _⟩ ?_
      rintro _ _ ⟨rfl, rfl⟩
      refine ev_reti dX6_told_25 rfl (Nat.zero_le _) (Nat.zero_le _) ?_
      exact ⟨by simp [sp_told, am_inN hP1 (by omega), sN_n (show P1 < 2 ^ 31 by omega), am_inN h2 (by omega), sN_n (show j2 < 2 ^ 31 by omega)], rfl⟩
    · skip
      refine ev_if_eq (tgt := 26) dX6_told_17 (by decide) (fun _ => ?_) (fun c => absurd (by decide) c)
      refine ev_iload_n dX6_told_26 rfl rfl ?_
      by_cases c3 : v = 4 ∨ v = 5 ∨ v = 6 ∨ v = 7
      · rcases c3 with c3 | c3 | c3 | c3
        · subst c3
          refine ev_tableIn (tgt := 56) (off := 29) dX6_told_27 (by decide) (by decide) rfl (by decide) ?_
          refine ev_aload_n dX6_told_56 rfl rfl ?_
          refine ev_getI (v := A 69 P1) dX6_told_57 fl_X6_143 (hX.gk hP1 hg1) (hX.g4 hP1 hg1) ?_
          refine ev_reti dX6_told_60 rfl (Nat.zero_le _) (Nat.zero_le _) ?_
          exact ⟨by simp [sp_told, am_inN hP1 (by omega), sN_n (show P1 < 2 ^ 31 by omega), am_inF (by omega) h2], rfl⟩
        · subst c3
          refine ev_tableIn (tgt := 61) (off := 34) dX6_told_27 (by decide) (by decide) rfl (by decide) ?_
          refine ev_aload_n dX6_told_61 rfl rfl ?_
          refine ev_getI (v := A 66 P1) dX6_told_62 fl_X6_146 (hX.gk hP1 hg1) (hX.g0 hP1 hg1) ?_
          refine ev_reti dX6_told_65 rfl (Nat.zero_le _) (Nat.zero_le _) ?_
          exact ⟨by simp [sp_told, am_inN hP1 (by omega), sN_n (show P1 < 2 ^ 31 by omega), am_inF (by omega) h2], rfl⟩
        · subst c3
          refine ev_tableIn (tgt := 66) (off := 39) dX6_told_27 (by decide) (by decide) rfl (by decide) ?_
          refine ev_aload_n dX6_told_66 rfl rfl ?_
          refine ev_getI (v := A 67 P1) dX6_told_67 fl_X6_149 (hX.gk hP1 hg1) (hX.g2 hP1 hg1) ?_
          refine ev_reti dX6_told_70 rfl (Nat.zero_le _) (Nat.zero_le _) ?_
          exact ⟨by simp [sp_told, am_inN hP1 (by omega), sN_n (show P1 < 2 ^ 31 by omega), am_inF (by omega) h2], rfl⟩
        · subst c3
          refine ev_tableIn (tgt := 71) (off := 44) dX6_told_27 (by decide) (by decide) rfl (by decide) ?_
          refine ev_aload_n dX6_told_71 rfl rfl ?_
          refine ev_getI (v := A 68 P1) dX6_told_72 fl_X6_152 (hX.gk hP1 hg1) (hX.g1 hP1 hg1) ?_
          refine ev_reti dX6_told_75 rfl (Nat.zero_le _) (Nat.zero_le _) ?_
          exact ⟨by simp [sp_told, am_inN hP1 (by omega), sN_n (show P1 < 2 ^ 31 by omega), am_inF (by omega) h2], rfl⟩
      · skip
        refine ev_tableOut (tgt := 76) dX6_told_27 (by simp [← Int32.toInt_inj] at c3; omega) (by decide) ?_
        refine ev_bipush (v := (-7)) dX6_told_76 (by decide) ?_
        refine ev_reti dX6_told_78 rfl (Nat.zero_le _) (Nat.zero_le _) ?_
        exact ⟨by simp [sp_told, am_inN hP1 (by omega), sN_n (show P1 < 2 ^ 31 by omega), am_inF (by omega) h2, c3, (show ¬ v = 4 from fun z => c3 (Or.inl z)), (show ¬ v = 5 from fun z => c3 (Or.inr (Or.inl z))), (show ¬ v = 6 from fun z => c3 (Or.inr (Or.inr (Or.inl z)))), (show ¬ v = 7 from fun z => c3 (Or.inr (Or.inr (Or.inr z))))], rfl⟩
  · skip
    refine ev_astore_nN (lv' := [(0, .ref 32), (1, .int p), (2, .int v), (3, .null)]) dX6_told_5 rfl (by decide) rfl ?_
    refine ev_aload_nN dX6_told_6 rfl rfl ?_
    refine ev_ifnonnullN dX6_told_7 ?_
    refine ev_bipush (v := (-5)) dX6_told_10 (by decide) ?_
    refine ev_reti dX6_told_12 rfl (Nat.zero_le _) (Nat.zero_le _) ?_
    exact ⟨by simp [sp_told, am_inF (by omega) hn1], rfl⟩

set_option maxHeartbeats 400000 in
set_option maxRecDepth 100000 in
theorem c_X6_force (G : am_G) (D : Nat) (A : am_S) (σ : am_M) (hA : wf_A A) (hX : iv_X A σ) (t : Int32) : am_Mt G D mX6_force [.ref 32, .int t] σ 0 0 (am_qD (sp_force A t) σ) := by
  have b7 := wf_np7 hA
  have b8 := wf_nq8 hA
  have b6 := wf_nt6 hA
  have b61 := wf_nt1 hA
  have b160 := wf_tp160 hA
  have brl := wf_rlt hA
  refine am_of moX6_force (Nat.le_of_ble_eq_true rfl) ?_
  show am_Ev G mX6_force (am_R D 0 0) 0 0 (am_qD (sp_force A t) σ) 0 [(0, .ref 32), (1, .int t)] [] σ 0 0
  refine ev_iload_n dX6_force_0 rfl rfl ?_
  refine ev_if_lt (tgt := 12) dX6_force_1 (by decide) (fun c1 => ?_) (fun c1 => ?_)
  · skip
    refine ev_bipush (v := (-2)) dX6_force_12 (by decide) ?_
    refine ev_reti dX6_force_14 rfl (Nat.zero_le _) (Nat.zero_le _) ?_
    refine am_qDi (B := A) ?_ hX fr_C.rf
    simp [sp_force, c1, (am_inF (x := t) (n := s_nt A) (by omega) (am_rgn (by omega) c1))]
  · skip
    refine ev_iload_n dX6_force_4 rfl rfl ?_
    refine ev_aload_n dX6_force_5 rfl rfl ?_
    refine ev_getI (v := nI (s_nt A)) dX6_force_6 fl_X6_81 (ly_k hX.ly 32 rfl) (hX.f14.trans (wf_nt hA)) ?_
    refine ev_icmp_lt (tgt := 15) dX6_force_9 (by decide) (fun c2 => ?_) (fun c2 => ?_)
    · skip
      obtain ⟨T, hT, rfl⟩ : am_rg t (s_nt A) := am_rg1 (nI_toInt (by omega)) c1 c2
      refine ev_aload_n dX6_force_15 rfl rfl ?_
      refine ev_getI (v := A 65 15) dX6_force_16 fl_X6_91 (ly_k hX.ly 32 rfl) hX.f15 ?_
      refine ev_istore_n (lv' := [(0, .ref 32), (1, .int (nI T)), (2, .int (A 65 15))]) dX6_force_19 rfl (by decide) rfl ?_
      refine ev_aload_n dX6_force_20 rfl rfl ?_
      refine ev_iload_n dX6_force_21 rfl rfl ?_
      refine ev_putI dX6_force_22 fl_X6_91 rfl rfl (ly_k hX.ly 32 rfl) ?_
      refine ev_iload_n dX6_force_25 rfl rfl ?_
      refine ev_reti dX6_force_26 rfl (Nat.zero_le _) (Nat.zero_le _) ?_
      refine am_qDi (B := (am_up A 65 15 (nI T))) ?_ (hX.w15) (fr_C.wr (by omega) fr_C.rf)
      simp [sp_force, am_inN hT (by omega), sN_n (show T < 2 ^ 31 by omega), c1, c2]
    · skip
      refine ev_bipush (v := (-2)) dX6_force_12 (by decide) ?_
      refine ev_reti dX6_force_14 rfl (Nat.zero_le _) (Nat.zero_le _) ?_
      refine am_qDi (B := A) ?_ hX fr_C.rf
      simp [sp_force, c1, c2, (am_inF (x := t) (n := s_nt A) (by omega) (am_rgm2 (nI_toInt (by omega)) c2))]

set_option maxHeartbeats 400000 in
set_option maxRecDepth 100000 in
theorem c_X6_question (G : am_G) (D : Nat) (A : am_S) (σ : am_M) (hA : wf_A A) (hX : iv_X A σ) (i v : Int32) : am_Mt G (D + 1) mX6_question [.ref 32, .int i, .int v] σ 0 0 (am_qD (sp_question A i v) σ) := by
  have b7 := wf_np7 hA
  have b8 := wf_nq8 hA
  have b6 := wf_nt6 hA
  have b61 := wf_nt1 hA
  have b160 := wf_tp160 hA
  have brl := wf_rlt hA
  refine am_of moX6_question (Nat.le_of_ble_eq_true rfl) ?_
  show am_Ev G mX6_question (am_R (D + 1) 0 0) 0 0 (am_qD (sp_question A i v) σ) 0 [(0, .ref 32), (1, .int i), (2, .int v)] [] σ 0 0
  refine ev_iload_n dX6_question_0 rfl rfl ?_
  refine ev_callS (as := [.int i]) (st := []) dX6_question_1 mfX6_isTopic lk_X6_132 (c_X6_isTopic G D σ i) rfl rfl (Nat.le_of_ble_eq_true rfl) (am_hR (by omega) (by decide)) ⟨Nat.le_refl _, Nat.le_refl _⟩ ?_
  rintro _ _ (⟨⟨j1, h1, rfl⟩, rfl, rfl⟩ | ⟨h1, rfl, rfl⟩)
  · skip
    refine ev_if_eq (tgt := 17) dX6_question_4 (by decide) (fun c => absurd c (by decide)) (fun _ => ?_)
    refine ev_iload_n dX6_question_7 rfl rfl ?_
    refine ev_if_lt (tgt := 17) dX6_question_8 (by decide) (fun c2 => ?_) (fun c2 => ?_)
    · skip
      refine ev_bipush (v := (-2)) dX6_question_17 (by decide) ?_
      refine ev_reti dX6_question_19 rfl (Nat.zero_le _) (Nat.zero_le _) ?_
      refine am_qDi (B := A) ?_ hX fr_C.rf
      simp [sp_question, am_inN h1 (by omega), sN_n (show j1 < 2 ^ 31 by omega), c2, (am_inF (x := v) (n := 10) (by decide) (am_rgn (by decide) c2))]
    · skip
      refine ev_iload_n dX6_question_11 rfl rfl ?_
      refine ev_bipush (v := 9) dX6_question_12 (by decide) ?_
      refine ev_icmp_le (tgt := 20) dX6_question_14 (by decide) (fun c3 => ?_) (fun c3 => ?_)
      · skip
        obtain ⟨V, hV, rfl⟩ : am_rg v 10 := am_rg3 (c := 9) (by decide) c2 c3
        refine ev_aload_n dX6_question_20 rfl rfl ?_
        refine ev_getI (v := nI (s_nq A)) dX6_question_21 fl_X6_88 (ly_k hX.ly 32 rfl) (hX.f13.trans (wf_nq hA)) ?_
        refine ev_bipush (v := 8) dX6_question_24 (by decide) ?_
        refine ev_icmp_lt (tgt := 32) dX6_question_26 (by decide) (fun c4 => ?_) (fun c4 => ?_)
        · skip
          have c4n : (s_nq A) < 8 := (nI_ltI (a := (s_nq A)) (b := 8) (by omega) (by omega)).mp c4
          refine ev_aload_n dX6_question_32 rfl rfl ?_
          refine ev_getR (b := 34) dX6_question_33 fl_X6_15 (ly_k hX.ly 32 rfl) (ly_r hX.ly 1 rfl) ?_
          refine ev_aload_n dX6_question_36 rfl rfl ?_
          refine ev_getI (v := nI (s_nq A)) dX6_question_37 fl_X6_88 (ly_k hX.ly 32 rfl) (hX.f13.trans (wf_nq hA)) ?_
          refine ev_iload_n dX6_question_40 rfl rfl ?_
          refine ev_iast dX6_question_41 (ly_k hX.ly 34 rfl) (am_ixn (by omega) (by decide)) ?_
          refine ev_aload_n dX6_question_42 rfl rfl ?_
          refine ev_getR (b := 35) dX6_question_43 fl_X6_19 (ly_k (hX.w34).ly 32 rfl) (ly_r (hX.w34).ly 2 rfl) ?_
          refine ev_aload_n dX6_question_46 rfl rfl ?_
          refine ev_getI (v := nI (s_nq A)) dX6_question_47 fl_X6_88 (ly_k (hX.w34).ly 32 rfl) ((hX.w34).f13.trans ((am_un (by omega)).trans (wf_nq hA))) ?_
          refine ev_iload_n dX6_question_50 rfl rfl ?_
          refine ev_iast dX6_question_51 (ly_k (hX.w34).ly 35 rfl) (am_ixn (by omega) (by decide)) ?_
          refine ev_aload_n dX6_question_52 rfl rfl ?_
          refine ev_dup dX6_question_53 rfl ?_
          refine ev_getI (v := nI (s_nq A)) dX6_question_54 fl_X6_88 (ly_k ((hX.w34).w35).ly 32 rfl) (((hX.w34).w35).f13.trans ((am_un (by omega)).trans ((am_un (by omega)).trans (wf_nq hA)))) ?_
          refine ev_iconst (v := 1) dX6_question_57 (by decide) ?_
          refine ev_iadd (v := nI (s_nq A + 1)) dX6_question_58 (nI_1 _) ?_
          refine ev_putI dX6_question_59 fl_X6_88 rfl rfl (ly_k ((hX.w34).w35).ly 32 rfl) ?_
          refine ev_aload_n dX6_question_62 rfl rfl ?_
          refine ev_getI (v := nI (s_nq A + 1)) dX6_question_63 fl_X6_88 (ly_k (((hX.w34).w35).w13).ly 32 rfl) ((((hX.w34).w35).w13).f13.trans am_us) ?_
          refine ev_iconst (v := 1) dX6_question_66 (by decide) ?_
          refine ev_isub (v := nI (s_nq A)) dX6_question_67 (nI_pred _) ?_
          refine ev_reti dX6_question_68 rfl (Nat.zero_le _) (Nat.zero_le _) ?_
          refine am_qDi (B := (am_up (am_up (am_up A 71 (s_nq A) (nI j1)) 72 (s_nq A) (nI V)) 65 6 (nI (s_nq A + 1)))) ?_ (((hX.w34).w35).w13) (fr_C.wr (by omega) (fr_C.wr (by omega) (fr_C.wr (by omega) fr_C.rf)))
          simp [sp_question, am_inN h1 (by omega), sN_n (show j1 < 2 ^ 31 by omega), am_inN hV (by omega), sN_n (show V < 2 ^ 31 by omega), c2, c3, c4, c4n, (show ¬ s_nq A = 8 by omega)]
        · skip
          have c4n : ¬ (s_nq A) < 8 := fun zz => c4 ((nI_ltI (a := (s_nq A)) (b := 8) (by omega) (by omega)).mpr zz)
          refine ev_bipush (v := (-4)) dX6_question_29 (by decide) ?_
          refine ev_reti dX6_question_31 rfl (Nat.zero_le _) (Nat.zero_le _) ?_
          refine am_qDi (B := A) ?_ hX fr_C.rf
          simp [sp_question, am_inN h1 (by omega), sN_n (show j1 < 2 ^ 31 by omega), am_inN hV (by omega), sN_n (show V < 2 ^ 31 by omega), c2, c3, c4, c4n, (show s_nq A = 8 by omega)]
      · skip
        refine ev_bipush (v := (-2)) dX6_question_17 (by decide) ?_
        refine ev_reti dX6_question_19 rfl (Nat.zero_le _) (Nat.zero_le _) ?_
        refine am_qDi (B := A) ?_ hX fr_C.rf
        simp [sp_question, am_inN h1 (by omega), sN_n (show j1 < 2 ^ 31 by omega), c2, c3, (am_inF (x := v) (n := 10) (by decide) (am_rgm3 (c := 9) (by decide) (by decide) c3))]
  · skip
    refine ev_if_eq (tgt := 17) dX6_question_4 (by decide) (fun _ => ?_) (fun c => absurd (by decide) c)
    refine ev_bipush (v := (-2)) dX6_question_17 (by decide) ?_
    refine ev_reti dX6_question_19 rfl (Nat.zero_le _) (Nat.zero_le _) ?_
    refine am_qDi (B := A) ?_ hX fr_C.rf
    simp [sp_question, am_inF (by omega) h1]

set_option maxHeartbeats 400000 in
set_option maxRecDepth 100000 in
theorem c_X6_askedOf (G : am_G) (D : Nat) (A : am_S) (σ : am_M) (hA : wf_A A) (hX : iv_X A σ) (q v : Int32) : am_Mt G (D + 2) mX6_askedOf [.ref 32, .int q, .int v] σ 0 0 (am_q (.int (sp_askedOf A q v)) σ) := by
  have b7 := wf_np7 hA
  have b8 := wf_nq8 hA
  have b6 := wf_nt6 hA
  have b61 := wf_nt1 hA
  have b160 := wf_tp160 hA
  have brl := wf_rlt hA
  refine am_of moX6_askedOf (Nat.le_of_ble_eq_true rfl) ?_
  show am_Ev G mX6_askedOf (am_R (D + 2) 0 0) 0 0 (am_q (.int (sp_askedOf A q v)) σ) 0 [(0, .ref 32), (1, .int q), (2, .int v)] [] σ 0 0
  refine ev_aload_n dX6_askedOf_0 rfl rfl ?_
  refine ev_iload_n dX6_askedOf_1 rfl rfl ?_
  refine ev_callV (as := [.int q]) (st := []) dX6_askedOf_2 mfX6_isQuestion lk_X6_155 (ly_k hX.ly 32 rfl) (by decide) rfl (c_X6_isQuestion G (D + 1) A σ hA hX q) rfl rfl (Nat.le_of_ble_eq_true rfl) (am_hR (by omega) (by decide)) ⟨Nat.le_refl _, Nat.le_refl _⟩ ?_
  rintro _ _ (⟨⟨j1, h1, rfl⟩, rfl, rfl⟩ | ⟨h1, rfl, rfl⟩)
  · skip
    refine ev_if_ne (tgt := 11) dX6_askedOf_5 (by decide) (fun _ => ?_) (fun c => absurd c (by decide))
    refine ev_iload_n dX6_askedOf_11 rfl rfl ?_
    refine ev_callS (as := [.int v]) (st := []) dX6_askedOf_12 mfX6_isZeroOrOne lk_X6_158 (c_X6_isZeroOrOne G (D + 1) σ v) rfl rfl (Nat.le_of_ble_eq_true rfl) (am_hR (by omega) (by decide)) ⟨Nat.le_refl _, Nat.le_refl _⟩ ?_
    rintro _ _ (⟨rfl | rfl, rfl, rfl⟩ | ⟨h2, rfl, rfl⟩)
    · skip
      refine ev_if_ne (tgt := 21) dX6_askedOf_15 (by decide) (fun _ => ?_) (fun c => absurd c (by decide))
      refine ev_iload_n dX6_askedOf_21 rfl rfl ?_
      refine ev_if_ne (tgt := 34) dX6_askedOf_22 (by decide) (fun c => absurd (by decide) c) (fun _ => ?_)
      refine ev_aload_n dX6_askedOf_25 rfl rfl ?_
      refine ev_getR (b := 34) dX6_askedOf_26 fl_X6_15 (ly_k hX.ly 32 rfl) (ly_r hX.ly 1 rfl) ?_
      refine ev_iload_n dX6_askedOf_29 rfl rfl ?_
      refine ev_iald (v := A 71 j1) dX6_askedOf_30 (ly_k hX.ly 34 rfl) (am_ixn (by omega) (by decide)) (hX.r34 j1) ?_
      refine ev_goto (tgt := 40) dX6_askedOf_31 (by decide) ?_
      refine ev_reti dX6_askedOf_40 rfl (Nat.zero_le _) (Nat.zero_le _) ?_
      exact ⟨by simp [sp_askedOf, am_inN h1 (by omega), sN_n (show j1 < 2 ^ 31 by omega)], rfl⟩
    · skip
      refine ev_if_ne (tgt := 21) dX6_askedOf_15 (by decide) (fun _ => ?_) (fun c => absurd c (by decide))
      refine ev_iload_n dX6_askedOf_21 rfl rfl ?_
      refine ev_if_ne (tgt := 34) dX6_askedOf_22 (by decide) (fun _ => ?_) (fun c => absurd c (by decide))
      refine ev_aload_n dX6_askedOf_34 rfl rfl ?_
      refine ev_getR (b := 35) dX6_askedOf_35 fl_X6_19 (ly_k hX.ly 32 rfl) (ly_r hX.ly 2 rfl) ?_
      refine ev_iload_n dX6_askedOf_38 rfl rfl ?_
      refine ev_iald (v := A 72 j1) dX6_askedOf_39 (ly_k hX.ly 35 rfl) (am_ixn (by omega) (by decide)) (hX.r35 j1) ?_
      refine ev_reti dX6_askedOf_40 rfl (Nat.zero_le _) (Nat.zero_le _) ?_
      exact ⟨by simp [sp_askedOf, am_inN h1 (by omega), sN_n (show j1 < 2 ^ 31 by omega)], rfl⟩
    · skip
      refine ev_if_ne (tgt := 21) dX6_askedOf_15 (by decide) (fun c => absurd (by decide) c) (fun _ => ?_)
      refine ev_bipush (v := (-7)) dX6_askedOf_18 (by decide) ?_
      refine ev_reti dX6_askedOf_20 rfl (Nat.zero_le _) (Nat.zero_le _) ?_
      exact ⟨by simp [sp_askedOf, am_inN h1 (by omega), sN_n (show j1 < 2 ^ 31 by omega), (show ¬ v = 0 from fun z => h2 (Or.inl z)), (show ¬ v = 1 from fun z => h2 (Or.inr z))], rfl⟩
  · skip
    refine ev_if_ne (tgt := 11) dX6_askedOf_5 (by decide) (fun c => absurd (by decide) c) (fun _ => ?_)
    refine ev_bipush (v := (-5)) dX6_askedOf_8 (by decide) ?_
    refine ev_reti dX6_askedOf_10 rfl (Nat.zero_le _) (Nat.zero_le _) ?_
    exact ⟨by simp [sp_askedOf, am_inF (by omega) h1], rfl⟩

set_option maxHeartbeats 400000 in
set_option maxRecDepth 100000 in
theorem c_X6_lay (G : am_G) (D : Nat) (A : am_S) (σ : am_M) (hA : wf_A A) (hX : iv_X A σ) (t q : Int32) : am_Mt G (D + 2) mX6_lay [.ref 32, .int t, .int q] σ 0 0 (am_qD (sp_lay A t q) σ) := by
  have b7 := wf_np7 hA
  have b8 := wf_nq8 hA
  have b6 := wf_nt6 hA
  have b61 := wf_nt1 hA
  have b160 := wf_tp160 hA
  have brl := wf_rlt hA
  refine am_of moX6_lay (Nat.le_of_ble_eq_true rfl) ?_
  show am_Ev G mX6_lay (am_R (D + 2) 0 0) 0 0 (am_qD (sp_lay A t q) σ) 0 [(0, .ref 32), (1, .int t), (2, .int q)] [] σ 0 0
  refine ev_iload_n dX6_lay_0 rfl rfl ?_
  refine ev_callS (as := [.int t]) (st := []) dX6_lay_1 mfX6_isTable lk_X6_161 (c_X6_isTable G (D + 1) σ t) rfl rfl (Nat.le_of_ble_eq_true rfl) (am_hR (by omega) (by decide)) ⟨Nat.le_refl _, Nat.le_refl _⟩ ?_
  rintro _ _ (⟨⟨j1, h1, rfl⟩, rfl, rfl⟩ | ⟨h1, rfl, rfl⟩)
  · skip
    refine ev_if_ne (tgt := 10) dX6_lay_4 (by decide) (fun _ => ?_) (fun c => absurd c (by decide))
    refine ev_iload_n dX6_lay_10 rfl rfl ?_
    refine ev_iconst (v := (-1)) dX6_lay_11 (by decide) ?_
    refine ev_icmp_eq (tgt := 26) dX6_lay_12 (by decide) (fun c2 => ?_) (fun c2 => ?_)
    · skip
      refine ev_aload_n dX6_lay_26 rfl rfl ?_
      refine ev_getR (b := 36) dX6_lay_27 fl_X6_22 (ly_k hX.ly 32 rfl) (ly_r hX.ly 3 rfl) ?_
      refine ev_iload_n dX6_lay_30 rfl rfl ?_
      refine ev_iald (v := A 73 j1) dX6_lay_31 (ly_k hX.ly 36 rfl) (am_ixn (by omega) (by decide)) (hX.r36 j1) ?_
      refine ev_istore_n (lv' := [(0, .ref 32), (1, .int (nI j1)), (2, .int q), (3, .int (A 73 j1))]) dX6_lay_32 rfl (by decide) rfl ?_
      refine ev_aload_n dX6_lay_33 rfl rfl ?_
      refine ev_getR (b := 36) dX6_lay_34 fl_X6_22 (ly_k hX.ly 32 rfl) (ly_r hX.ly 3 rfl) ?_
      refine ev_iload_n dX6_lay_37 rfl rfl ?_
      refine ev_iload_n dX6_lay_38 rfl rfl ?_
      refine ev_iast dX6_lay_39 (ly_k hX.ly 36 rfl) (am_ixn (by omega) (by decide)) ?_
      refine ev_iload_n dX6_lay_40 rfl rfl ?_
      refine ev_reti dX6_lay_41 rfl (Nat.zero_le _) (Nat.zero_le _) ?_
      refine am_qDi (B := (am_up A 73 j1 q)) ?_ (hX.w36) (fr_C.wr (by omega) fr_C.rf)
      simp [sp_lay, am_inN h1 (by omega), sN_n (show j1 < 2 ^ 31 by omega), c2]
    · skip
      refine ev_aload_n dX6_lay_15 rfl rfl ?_
      refine ev_iload_n dX6_lay_16 rfl rfl ?_
      refine ev_callV (as := [.int q]) (st := []) dX6_lay_17 mfX6_isQuestion lk_X6_155 (ly_k hX.ly 32 rfl) (by decide) rfl (c_X6_isQuestion G (D + 1) A σ hA hX q) rfl rfl (Nat.le_of_ble_eq_true rfl) (am_hR (by omega) (by decide)) ⟨Nat.le_refl _, Nat.le_refl _⟩ ?_
      rintro _ _ (⟨⟨j3, h3, rfl⟩, rfl, rfl⟩ | ⟨h3, rfl, rfl⟩)
      · skip
        refine ev_if_ne (tgt := 26) dX6_lay_20 (by decide) (fun _ => ?_) (fun c => absurd c (by decide))
        refine ev_aload_n dX6_lay_26 rfl rfl ?_
        refine ev_getR (b := 36) dX6_lay_27 fl_X6_22 (ly_k hX.ly 32 rfl) (ly_r hX.ly 3 rfl) ?_
        refine ev_iload_n dX6_lay_30 rfl rfl ?_
        refine ev_iald (v := A 73 j1) dX6_lay_31 (ly_k hX.ly 36 rfl) (am_ixn (by omega) (by decide)) (hX.r36 j1) ?_
        refine ev_istore_n (lv' := [(0, .ref 32), (1, .int (nI j1)), (2, .int (nI j3)), (3, .int (A 73 j1))]) dX6_lay_32 rfl (by decide) rfl ?_
        refine ev_aload_n dX6_lay_33 rfl rfl ?_
        refine ev_getR (b := 36) dX6_lay_34 fl_X6_22 (ly_k hX.ly 32 rfl) (ly_r hX.ly 3 rfl) ?_
        refine ev_iload_n dX6_lay_37 rfl rfl ?_
        refine ev_iload_n dX6_lay_38 rfl rfl ?_
        refine ev_iast dX6_lay_39 (ly_k hX.ly 36 rfl) (am_ixn (by omega) (by decide)) ?_
        refine ev_iload_n dX6_lay_40 rfl rfl ?_
        refine ev_reti dX6_lay_41 rfl (Nat.zero_le _) (Nat.zero_le _) ?_
        refine am_qDi (B := (am_up A 73 j1 (nI j3))) ?_ (hX.w36) (fr_C.wr (by omega) fr_C.rf)
        simp [sp_lay, am_inN h1 (by omega), sN_n (show j1 < 2 ^ 31 by omega), am_inN h3 (by omega), sN_n (show j3 < 2 ^ 31 by omega), c2]
      · skip
        refine ev_if_ne (tgt := 26) dX6_lay_20 (by decide) (fun c => absurd (by decide) c) (fun _ => ?_)
        refine ev_bipush (v := (-7)) dX6_lay_23 (by decide) ?_
        refine ev_reti dX6_lay_25 rfl (Nat.zero_le _) (Nat.zero_le _) ?_
        refine am_qDi (B := A) ?_ hX fr_C.rf
        simp [sp_lay, am_inN h1 (by omega), sN_n (show j1 < 2 ^ 31 by omega), am_inF (by omega) h3, c2]
  · skip
    refine ev_if_ne (tgt := 10) dX6_lay_4 (by decide) (fun c => absurd (by decide) c) (fun _ => ?_)
    refine ev_bipush (v := (-5)) dX6_lay_7 (by decide) ?_
    refine ev_reti dX6_lay_9 rfl (Nat.zero_le _) (Nat.zero_le _) ?_
    refine am_qDi (B := A) ?_ hX fr_C.rf
    simp [sp_lay, am_inF (by omega) h1]

set_option maxHeartbeats 400000 in
set_option maxRecDepth 100000 in
theorem c_X6_laid (G : am_G) (D : Nat) (A : am_S) (σ : am_M) (hA : wf_A A) (hX : iv_X A σ) (t : Int32) : am_Mt G (D + 1) mX6_laid [.ref 32, .int t] σ 0 0 (am_q (.int (sp_laid A t)) σ) := by
  have b7 := wf_np7 hA
  have b8 := wf_nq8 hA
  have b6 := wf_nt6 hA
  have b61 := wf_nt1 hA
  have b160 := wf_tp160 hA
  have brl := wf_rlt hA
  refine am_of moX6_laid (Nat.le_of_ble_eq_true rfl) ?_
  show am_Ev G mX6_laid (am_R (D + 1) 0 0) 0 0 (am_q (.int (sp_laid A t)) σ) 0 [(0, .ref 32), (1, .int t)] [] σ 0 0
  refine ev_iload_n dX6_laid_0 rfl rfl ?_
  refine ev_callS (as := [.int t]) (st := []) dX6_laid_1 mfX6_isTable lk_X6_161 (c_X6_isTable G D σ t) rfl rfl (Nat.le_of_ble_eq_true rfl) (am_hR (by omega) (by decide)) ⟨Nat.le_refl _, Nat.le_refl _⟩ ?_
  rintro _ _ (⟨⟨j1, h1, rfl⟩, rfl, rfl⟩ | ⟨h1, rfl, rfl⟩)
  · skip
    refine ev_if_eq (tgt := 16) dX6_laid_4 (by decide) (fun c => absurd c (by decide)) (fun _ => ?_)
    refine ev_aload_n dX6_laid_7 rfl rfl ?_
    refine ev_getR (b := 36) dX6_laid_8 fl_X6_22 (ly_k hX.ly 32 rfl) (ly_r hX.ly 3 rfl) ?_
    refine ev_iload_n dX6_laid_11 rfl rfl ?_
    refine ev_iald (v := A 73 j1) dX6_laid_12 (ly_k hX.ly 36 rfl) (am_ixn (by omega) (by decide)) (hX.r36 j1) ?_
    refine ev_goto (tgt := 18) dX6_laid_13 (by decide) ?_
    refine ev_reti dX6_laid_18 rfl (Nat.zero_le _) (Nat.zero_le _) ?_
    exact ⟨by simp [sp_laid, am_inN h1 (by omega), sN_n (show j1 < 2 ^ 31 by omega)], rfl⟩
  · skip
    refine ev_if_eq (tgt := 16) dX6_laid_4 (by decide) (fun _ => ?_) (fun c => absurd (by decide) c)
    refine ev_bipush (v := (-5)) dX6_laid_16 (by decide) ?_
    refine ev_reti dX6_laid_18 rfl (Nat.zero_le _) (Nat.zero_le _) ?_
    exact ⟨by simp [sp_laid, am_inF (by omega) h1], rfl⟩

set_option maxHeartbeats 400000 in
set_option maxRecDepth 100000 in
theorem c_X6_learn (G : am_G) (D : Nat) (A : am_S) (σ : am_M) (hA : wf_A A) (hX : iv_X A σ) (p i v : Int32) : am_Mt G (D + 3) mX6_learn [.ref 32, .int p, .int i, .int v] σ 0 0 (am_qD (sp_learn A p i v) σ) := by
  have b7 := wf_np7 hA
  have b8 := wf_nq8 hA
  have b6 := wf_nt6 hA
  have b61 := wf_nt1 hA
  have b160 := wf_tp160 hA
  have brl := wf_rlt hA
  refine am_of moX6_learn (Nat.le_of_ble_eq_true rfl) ?_
  show am_Ev G mX6_learn (am_R (D + 3) 0 0) 0 0 (am_qD (sp_learn A p i v) σ) 0 [(0, .ref 32), (1, .int p), (2, .int i), (3, .int v)] [] σ 0 0
  refine ev_aload_n dX6_learn_0 rfl rfl ?_
  refine ev_iload_n dX6_learn_1 rfl rfl ?_
  refine ev_callV (as := [.int p]) (st := []) dX6_learn_2 mfX6_personAt lk_X6_128 (ly_k hX.ly 32 rfl) (by decide) rfl (c_X6_personAt G (D + 2) A σ hA hX p) rfl rfl (Nat.le_of_ble_eq_true rfl) (am_hR (by omega) (by decide)) ⟨Nat.le_refl _, Nat.le_refl _⟩ ?_
  rintro _ _ (⟨P1, g1, rfl, hP1, hg1, rfl, rfl⟩ | ⟨hn1, rfl, rfl⟩)
  · skip
    have h91 := hX.g9 hP1 hg1
    refine ev_astore (lv' := [(0, .ref 32), (1, .int (nI P1)), (2, .int i), (3, .int v), (4, .ref g1)]) dX6_learn_5 (by decide) rfl ?_
    refine ev_aload dX6_learn_7 rfl ?_
    refine ev_ifnonnullR (tgt := 15) dX6_learn_9 (by decide) ?_
    refine ev_iload_n dX6_learn_15 rfl rfl ?_
    refine ev_callS (as := [.int i]) (st := []) dX6_learn_16 mfX6_isTopic lk_X6_132 (c_X6_isTopic G (D + 2) σ i) rfl rfl (Nat.le_of_ble_eq_true rfl) (am_hR (by omega) (by decide)) ⟨Nat.le_refl _, Nat.le_refl _⟩ ?_
    rintro _ _ (⟨⟨j2, h2, rfl⟩, rfl, rfl⟩ | ⟨h2, rfl, rfl⟩)
    · skip
      refine ev_if_eq (tgt := 32) dX6_learn_19 (by decide) (fun c => absurd c (by decide)) (fun _ => ?_)
      refine ev_iload_n dX6_learn_22 rfl rfl ?_
      refine ev_if_lt (tgt := 32) dX6_learn_23 (by decide) (fun c3 => ?_) (fun c3 => ?_)
      · skip
        refine ev_bipush (v := (-7)) dX6_learn_32 (by decide) ?_
        refine ev_reti dX6_learn_34 rfl (Nat.zero_le _) (Nat.zero_le _) ?_
        refine am_qDi (B := A) ?_ hX fr_C.rf
        simp [sp_learn, am_inN hP1 (by omega), sN_n (show P1 < 2 ^ 31 by omega), am_inN h2 (by omega), sN_n (show j2 < 2 ^ 31 by omega), c3, (am_inF (x := v) (n := 10) (by decide) (am_rgn (by decide) c3))]
      · skip
        refine ev_iload_n dX6_learn_26 rfl rfl ?_
        refine ev_bipush (v := 9) dX6_learn_27 (by decide) ?_
        refine ev_icmp_le (tgt := 35) dX6_learn_29 (by decide) (fun c4 => ?_) (fun c4 => ?_)
        · skip
          obtain ⟨V, hV, rfl⟩ : am_rg v 10 := am_rg3 (c := 9) (by decide) c3 c4
          refine ev_aload dX6_learn_35 rfl ?_
          refine ev_iload_n dX6_learn_37 rfl rfl ?_
          refine ev_callV (as := [.int (nI j2)]) (st := []) dX6_learn_38 mfX1_deepAt lk_X6_135 (hX.gk hP1 hg1) (by decide) rfl (c_X1_deepAtN G (D + 1) A σ hA hX P1 g1 hP1 hg1 j2 (by omega)) rfl rfl (Nat.le_of_ble_eq_true rfl) (am_hR (by omega) (by decide)) ⟨Nat.le_refl _, Nat.le_refl _⟩ ?_
          rintro _ _ ⟨rfl, rfl⟩
          refine ev_istore (lv' := [(0, .ref 32), (1, .int (nI P1)), (2, .int (nI j2)), (3, .int (nI V)), (4, .ref g1), (5, .int (A 70 (4 * P1 + j2)))]) dX6_learn_41 (by decide) rfl ?_
          refine ev_aload dX6_learn_43 rfl ?_
          refine ev_iload_n dX6_learn_45 rfl rfl ?_
          refine ev_iload_n dX6_learn_46 rfl rfl ?_
          refine ev_callV (as := [.int (nI j2), .int (nI V)]) (st := []) dX6_learn_47 mfX1_becomeDeep lk_X6_139 (hX.gk hP1 hg1) (by decide) rfl (c_X1_becomeDeepN G D A σ hA hX P1 g1 hP1 hg1 j2 (by omega) (nI V)) rfl rfl (Nat.le_of_ble_eq_true rfl) (am_hR (by omega) (by decide)) ⟨Nat.le_refl _, Nat.le_refl _⟩ ?_
          rintro _ _ ⟨rfl, rfl⟩
          rw [am_bd9 (V := V) (by omega)]
          refine ev_iload dX6_learn_50 rfl ?_
          refine ev_reti dX6_learn_52 rfl (Nat.zero_le _) (Nat.zero_le _) ?_
          refine am_qDi (B := (am_up A 70 (4 * P1 + j2) (nI V))) ?_ (iv_X.w70 hP1 hg1 (by omega) hX) (fr_C.wr (by omega) fr_C.rf)
          simp [sp_learn, am_inN hP1 (by omega), sN_n (show P1 < 2 ^ 31 by omega), am_inN h2 (by omega), sN_n (show j2 < 2 ^ 31 by omega), am_inN hV (by omega), sN_n (show V < 2 ^ 31 by omega), c3, c4]
        · skip
          refine ev_bipush (v := (-7)) dX6_learn_32 (by decide) ?_
          refine ev_reti dX6_learn_34 rfl (Nat.zero_le _) (Nat.zero_le _) ?_
          refine am_qDi (B := A) ?_ hX fr_C.rf
          simp [sp_learn, am_inN hP1 (by omega), sN_n (show P1 < 2 ^ 31 by omega), am_inN h2 (by omega), sN_n (show j2 < 2 ^ 31 by omega), c3, c4, (am_inF (x := v) (n := 10) (by decide) (am_rgm3 (c := 9) (by decide) (by decide) c4))]
    · skip
      refine ev_if_eq (tgt := 32) dX6_learn_19 (by decide) (fun _ => ?_) (fun c => absurd (by decide) c)
      refine ev_bipush (v := (-7)) dX6_learn_32 (by decide) ?_
      refine ev_reti dX6_learn_34 rfl (Nat.zero_le _) (Nat.zero_le _) ?_
      refine am_qDi (B := A) ?_ hX fr_C.rf
      simp [sp_learn, am_inN hP1 (by omega), sN_n (show P1 < 2 ^ 31 by omega), am_inF (by omega) h2]
  · skip
    refine ev_astoreN (lv' := [(0, .ref 32), (1, .int p), (2, .int i), (3, .int v), (4, .null)]) dX6_learn_5 (by decide) rfl ?_
    refine ev_aloadN dX6_learn_7 rfl ?_
    refine ev_ifnonnullN dX6_learn_9 ?_
    refine ev_bipush (v := (-5)) dX6_learn_12 (by decide) ?_
    refine ev_reti dX6_learn_14 rfl (Nat.zero_le _) (Nat.zero_le _) ?_
    refine am_qDi (B := A) ?_ hX fr_C.rf
    simp [sp_learn, am_inF (by omega) hn1]

set_option maxHeartbeats 400000 in
set_option maxRecDepth 100000 in
theorem c_X6_sit (G : am_G) (D : Nat) (A : am_S) (σ : am_M) (hA : wf_A A) (hX : iv_X A σ) (p t : Int32) : am_Mt G (D + 2) mX6_sit [.ref 32, .int p, .int t] σ 0 0 (am_qD (sp_sit A p t) σ) := by
  have b7 := wf_np7 hA
  have b8 := wf_nq8 hA
  have b6 := wf_nt6 hA
  have b61 := wf_nt1 hA
  have b160 := wf_tp160 hA
  have brl := wf_rlt hA
  refine am_of moX6_sit (Nat.le_of_ble_eq_true rfl) ?_
  show am_Ev G mX6_sit (am_R (D + 2) 0 0) 0 0 (am_qD (sp_sit A p t) σ) 0 [(0, .ref 32), (1, .int p), (2, .int t)] [] σ 0 0
  refine ev_aload_n dX6_sit_0 rfl rfl ?_
  refine ev_iload_n dX6_sit_1 rfl rfl ?_
  refine ev_callV (as := [.int p]) (st := []) dX6_sit_2 mfX6_personAt lk_X6_128 (ly_k hX.ly 32 rfl) (by decide) rfl (c_X6_personAt G (D + 1) A σ hA hX p) rfl rfl (Nat.le_of_ble_eq_true rfl) (am_hR (by omega) (by decide)) ⟨Nat.le_refl _, Nat.le_refl _⟩ ?_
  rintro _ _ (⟨P1, g1, rfl, hP1, hg1, rfl, rfl⟩ | ⟨hn1, rfl, rfl⟩)
  · skip
    have h91 := hX.g9 hP1 hg1
    refine ev_astore_n (lv' := [(0, .ref 32), (1, .int (nI P1)), (2, .int t), (3, .ref g1)]) dX6_sit_5 rfl (by decide) rfl ?_
    refine ev_aload_n dX6_sit_6 rfl rfl ?_
    refine ev_ifnonnullR (tgt := 13) dX6_sit_7 (by decide) ?_
    refine ev_iload_n dX6_sit_13 rfl rfl ?_
    refine ev_callS (as := [.int t]) (st := []) dX6_sit_14 mfX6_isTableOrNone lk_X6_122 (c_X6_isTableOrNone G D σ t) rfl rfl (Nat.le_of_ble_eq_true rfl) (am_hR (by omega) (by decide)) ⟨Nat.le_refl _, Nat.le_refl _⟩ ?_
    rintro _ _ (⟨hsb, rfl, rfl⟩ | ⟨hsb, rfl, rfl⟩)
    · skip
      refine ev_if_ne (tgt := 23) dX6_sit_17 (by decide) (fun _ => ?_) (fun c => absurd c (by decide))
      refine ev_aload_n dX6_sit_23 rfl rfl ?_
      refine ev_getI (v := A 69 P1) dX6_sit_24 fl_X6_143 (hX.gk hP1 hg1) (hX.g4 hP1 hg1) ?_
      refine ev_istore (lv' := [(0, .ref 32), (1, .int (nI P1)), (2, .int t), (3, .ref g1), (4, .int (A 69 P1))]) dX6_sit_27 (by decide) rfl ?_
      refine ev_aload_n dX6_sit_29 rfl rfl ?_
      refine ev_iload_n dX6_sit_30 rfl rfl ?_
      refine ev_putI dX6_sit_31 fl_X6_143 rfl rfl (hX.gk hP1 hg1) ?_
      refine ev_iload dX6_sit_34 rfl ?_
      refine ev_reti dX6_sit_36 rfl (Nat.zero_le _) (Nat.zero_le _) ?_
      refine am_qDi (B := (am_up A 69 P1 t)) ?_ (iv_X.w69 hP1 hg1 hX) (fr_C.wr (by omega) fr_C.rf)
      simp [sp_sit, am_inN hP1 (by omega), sN_n (show P1 < 2 ^ 31 by omega), (am_sbR.mpr hsb)]
    · skip
      refine ev_if_ne (tgt := 23) dX6_sit_17 (by decide) (fun c => absurd (by decide) c) (fun _ => ?_)
      refine ev_bipush (v := (-7)) dX6_sit_20 (by decide) ?_
      refine ev_reti dX6_sit_22 rfl (Nat.zero_le _) (Nat.zero_le _) ?_
      refine am_qDi (B := A) ?_ hX fr_C.rf
      simp [sp_sit, am_inN hP1 (by omega), sN_n (show P1 < 2 ^ 31 by omega), (am_sbN hsb)]
  · skip
    refine ev_astore_nN (lv' := [(0, .ref 32), (1, .int p), (2, .int t), (3, .null)]) dX6_sit_5 rfl (by decide) rfl ?_
    refine ev_aload_nN dX6_sit_6 rfl rfl ?_
    refine ev_ifnonnullN dX6_sit_7 ?_
    refine ev_bipush (v := (-5)) dX6_sit_10 (by decide) ?_
    refine ev_reti dX6_sit_12 rfl (Nat.zero_le _) (Nat.zero_le _) ?_
    refine am_qDi (B := A) ?_ hX fr_C.rf
    simp [sp_sit, am_inF (by omega) hn1]

set_option maxHeartbeats 400000 in
set_option maxRecDepth 100000 in
theorem c_X6_cell (G : am_G) (D : Nat) (A : am_S) (σ : am_M) (hA : wf_A A) (hX : iv_X A σ) (s i v : Int32) : am_Mt G (D + 2) mX6_cell [.ref 32, .int s, .int i, .int v] σ 0 0 (am_qD (sp_cell A s i v) σ) := by
  have b7 := wf_np7 hA
  have b8 := wf_nq8 hA
  have b6 := wf_nt6 hA
  have b61 := wf_nt1 hA
  have b160 := wf_tp160 hA
  have brl := wf_rlt hA
  refine am_of moX6_cell (Nat.le_of_ble_eq_true rfl) ?_
  show am_Ev G mX6_cell (am_R (D + 2) 0 0) 0 0 (am_qD (sp_cell A s i v) σ) 0 [(0, .ref 32), (1, .int s), (2, .int i), (3, .int v)] [] σ 0 0
  refine ev_aload_n dX6_cell_0 rfl rfl ?_
  refine ev_iload_n dX6_cell_1 rfl rfl ?_
  refine ev_callV (as := [.int s]) (st := []) dX6_cell_2 mfX6_sheetAt lk_X6_225 (ly_k hX.ly 32 rfl) (by decide) rfl (c_X6_sheetAt G (D + 1) A σ hX s) rfl rfl (Nat.le_of_ble_eq_true rfl) (am_hR (by omega) (by decide)) ⟨Nat.le_refl _, Nat.le_refl _⟩ ?_
  rintro _ _ (⟨S, rfl, hS, rfl, rfl⟩ | ⟨hn1, rfl, rfl⟩)
  · skip
    refine ev_astore (lv' := [(0, .ref 32), (1, .int (nI S)), (2, .int i), (3, .int v), (4, .ref (42 + 2 * S))]) dX6_cell_5 (by decide) rfl ?_
    refine ev_aload dX6_cell_7 rfl ?_
    refine ev_ifnonnullR (tgt := 15) dX6_cell_9 (by decide) ?_
    have hz40 := (ws_z hA hS).2
    refine ev_aload dX6_cell_15 rfl ?_
    refine ev_callV (as := []) (st := []) dX6_cell_17 mfX3_isMissing lk_X6_268 (ly_s hX.ly hS).2.1 (by decide) rfl (c_X3_isMissing G (D + 1) A σ hX S hS) rfl rfl (Nat.le_of_ble_eq_true rfl) (am_hR (by omega) (by decide)) ⟨Nat.le_refl _, Nat.le_refl _⟩ ?_
    rintro _ _ (⟨hm2, rfl, rfl⟩ | ⟨hm2, rfl, rfl⟩)
    · skip
      refine ev_if_eq (tgt := 26) dX6_cell_20 (by decide) (fun c => absurd c (by decide)) (fun _ => ?_)
      refine ev_bipush (v := (-11)) dX6_cell_23 (by decide) ?_
      refine ev_reti dX6_cell_25 rfl (Nat.zero_le _) (Nat.zero_le _) ?_
      refine am_qDi (B := A) ?_ hX fr_C.rf
      simp [sp_cell, am_inN hS (by omega), sN_n (show S < 2 ^ 31 by omega), hm2]
    · skip
      refine ev_if_eq (tgt := 26) dX6_cell_20 (by decide) (fun _ => ?_) (fun c => absurd (by decide) c)
      refine ev_aload dX6_cell_26 rfl ?_
      refine ev_iload_n dX6_cell_28 rfl rfl ?_
      refine ev_callV (as := [.int i]) (st := []) dX6_cell_29 mfX3_has lk_X6_272 (ly_s hX.ly hS).2.1 (by decide) rfl (c_X3_has G (D + 1) A σ hA hX S hS i) rfl rfl (Nat.le_of_ble_eq_true rfl) (am_hR (by omega) (by decide)) ⟨Nat.le_refl _, Nat.le_refl _⟩ ?_
      rintro _ _ (⟨⟨K, hK, rfl⟩, rfl, rfl⟩ | ⟨hnK, rfl, rfl⟩)
      · skip
        refine ev_if_ne (tgt := 38) dX6_cell_32 (by decide) (fun _ => ?_) (fun c => absurd c (by decide))
        refine ev_aload dX6_cell_38 rfl ?_
        refine ev_iload_n dX6_cell_40 rfl rfl ?_
        refine ev_iload_n dX6_cell_41 rfl rfl ?_
        refine ev_callV (as := [.int (nI K), .int v]) (st := []) dX6_cell_42 mfX3_put lk_X6_232 (ly_s hX.ly hS).2.1 (by decide) rfl (c_X3_put G D A σ hA hX S hS K hK v) rfl rfl (Nat.le_of_ble_eq_true rfl) (am_hR (by omega) (by decide)) ⟨Nat.le_refl _, Nat.le_refl _⟩ ?_
        rintro _ _ ⟨rfl, rfl⟩
        refine ev_iconst (v := 1) dX6_cell_45 (by decide) ?_
        refine ev_reti dX6_cell_46 rfl (Nat.zero_le _) (Nat.zero_le _) ?_
        refine am_qDi (B := (am_up A 82 (40 * S + K) (s_cast (A 80 S) v))) ?_ (iv_X.wsn hS (by omega) hX) (fr_C.wr (by omega) fr_C.rf)
        simp [sp_cell, am_inN hS (by omega), sN_n (show S < 2 ^ 31 by omega), hm2, am_inN hK (show sN (A 81 S) < 2 ^ 31 by omega), sN_n (show K < 2 ^ 31 by omega)]
      · skip
        refine ev_if_ne (tgt := 38) dX6_cell_32 (by decide) (fun c => absurd (by decide) c) (fun _ => ?_)
        refine ev_bipush (v := (-12)) dX6_cell_35 (by decide) ?_
        refine ev_reti dX6_cell_37 rfl (Nat.zero_le _) (Nat.zero_le _) ?_
        refine am_qDi (B := A) ?_ hX fr_C.rf
        simp [sp_cell, am_inN hS (by omega), sN_n (show S < 2 ^ 31 by omega), hm2, am_inF (show sN (A 81 S) < 2 ^ 31 by omega) hnK]
  · skip
    refine ev_astoreN (lv' := [(0, .ref 32), (1, .int s), (2, .int i), (3, .int v), (4, .null)]) dX6_cell_5 (by decide) rfl ?_
    refine ev_aloadN dX6_cell_7 rfl ?_
    refine ev_ifnonnullN dX6_cell_9 ?_
    refine ev_bipush (v := (-2)) dX6_cell_12 (by decide) ?_
    refine ev_reti dX6_cell_14 rfl (Nat.zero_le _) (Nat.zero_le _) ?_
    refine am_qDi (B := A) ?_ hX fr_C.rf
    simp [sp_cell, am_inF (by decide) hn1]

set_option maxHeartbeats 400000 in
set_option maxRecDepth 100000 in
theorem c_X6_sheet (G : am_G) (D : Nat) (A : am_S) (σ : am_M) (hA : wf_A A) (hX : iv_X A σ) (s b n : Int32) : am_Mt G (D + 3) mX6_sheet [.ref 32, .int s, .int b, .int n] σ 0 0 (am_qD (sp_sheet A s b n) σ) := by
  have b7 := wf_np7 hA
  have b8 := wf_nq8 hA
  have b6 := wf_nt6 hA
  have b61 := wf_nt1 hA
  have b160 := wf_tp160 hA
  have brl := wf_rlt hA
  refine am_of moX6_sheet (Nat.le_of_ble_eq_true rfl) ?_
  show am_Ev G mX6_sheet (am_R (D + 3) 0 0) 0 0 (am_qD (sp_sheet A s b n) σ) 0 [(0, .ref 32), (1, .int s), (2, .int b), (3, .int n)] [] σ 0 0
  refine ev_aload_n dX6_sheet_0 rfl rfl ?_
  refine ev_iload_n dX6_sheet_1 rfl rfl ?_
  refine ev_callV (as := [.int s]) (st := []) dX6_sheet_2 mfX6_sheetAt lk_X6_225 (ly_k hX.ly 32 rfl) (by decide) rfl (c_X6_sheetAt G (D + 2) A σ hX s) rfl rfl (Nat.le_of_ble_eq_true rfl) (am_hR (by omega) (by decide)) ⟨Nat.le_refl _, Nat.le_refl _⟩ ?_
  rintro _ _ (⟨S, rfl, hS, rfl, rfl⟩ | ⟨hn1, rfl, rfl⟩)
  · skip
    refine ev_astore (lv' := [(0, .ref 32), (1, .int (nI S)), (2, .int b), (3, .int n), (4, .ref (42 + 2 * S))]) dX6_sheet_5 (by decide) rfl ?_
    refine ev_aload dX6_sheet_7 rfl ?_
    refine ev_ifnullR dX6_sheet_9 ?_
    refine ev_iload_n dX6_sheet_12 rfl rfl ?_
    refine ev_iconst (v := (-1)) dX6_sheet_13 (by decide) ?_
    refine ev_icmp_lt (tgt := 22) dX6_sheet_14 (by decide) (fun c2 => ?_) (fun c2 => ?_)
    · skip
      have hsb := am_sbF (t := b) (fun z => absurd z.1 (Int32.not_le.mpr c2))
      refine ev_bipush (v := (-2)) dX6_sheet_22 (by decide) ?_
      refine ev_reti dX6_sheet_24 rfl (Nat.zero_le _) (Nat.zero_le _) ?_
      refine am_qDi (B := A) ?_ hX fr_C.rf
      simp [sp_sheet, am_inN hS (by omega), sN_n (show S < 2 ^ 31 by omega), c2, hsb] <;> decide
    · skip
      refine ev_iload_n dX6_sheet_17 rfl rfl ?_
      refine ev_iconst (v := 2) dX6_sheet_18 (by decide) ?_
      refine ev_icmp_le (tgt := 25) dX6_sheet_19 (by decide) (fun c3 => ?_) (fun c3 => ?_)
      · skip
        have hsb := am_sbT ⟨Int32.not_lt.mp c2, c3⟩
        refine ev_iload_n dX6_sheet_25 rfl rfl ?_
        refine ev_iconst (v := (-1)) dX6_sheet_26 (by decide) ?_
        refine ev_icmp_ne (tgt := 39) dX6_sheet_27 (by decide) (fun c4 => ?_) (fun c4 => ?_)
        · skip
          refine ev_iload_n dX6_sheet_39 rfl rfl ?_
          refine ev_bipush (v := 40) dX6_sheet_40 (by decide) ?_
          refine ev_icmp_le (tgt := 48) dX6_sheet_42 (by decide) (fun c5 => ?_) (fun c5 => ?_)
          · skip
            refine ev_iload_n dX6_sheet_48 rfl rfl ?_
            refine ev_if_ge (tgt := 55) dX6_sheet_49 (by decide) (fun c6 => ?_) (fun c6 => ?_)
            · skip
              obtain ⟨N, hN, rfl⟩ : am_rg n 41 := am_rg3 (c := 40) (by decide) (Int32.not_lt.mpr c6) c5
              have hNz : ¬ nI N < 0 := nI_pos (by omega)
              refine ev_aload dX6_sheet_55 rfl ?_
              refine ev_iload_n dX6_sheet_57 rfl rfl ?_
              refine ev_iload_n dX6_sheet_58 rfl rfl ?_
              refine ev_callV (as := [.int b, .int (nI N)]) (st := []) dX6_sheet_59 mfX3_become lk_X6_229 (ly_s hX.ly hS).2.1 (by decide) rfl (c_X3_become G D A σ hX S hS b (nI N)) rfl rfl (Nat.le_of_ble_eq_true rfl) (am_hR (by omega) (by decide)) ⟨Nat.le_refl _, Nat.le_refl _⟩ ?_
              rintro _ _ ⟨rfl, rfl⟩
              rw [am_bd40 (V := N) (by omega)]
              refine ev_iconst (v := 1) dX6_sheet_62 (by decide) ?_
              refine ev_reti dX6_sheet_63 rfl (Nat.zero_le _) (Nat.zero_le _) ?_
              refine am_qDi (B := (s_s0 (am_up (am_up A 80 S b) 81 S (nI N)) S 40)) ?_ (iv_X.fl hS (iv_X.ws2 hS (iv_X.ws1 hS hX)) 40 (Nat.le_refl _)) (fr_C.fl (by omega) (fr_C.wr (by omega) (fr_C.wr (by omega) fr_C.rf)) 40)
              simp [sp_sheet, am_inN hS (by omega), sN_n (show S < 2 ^ 31 by omega), c2, c3, hsb, c4, c5, c6, (show am_sb (-1) = true by decide), hNz, (show nI N ≤ 40 from (nI_leI (a := N) (b := 40) (by omega) (by decide)).mpr (by omega))] <;> decide
            · skip
              refine ev_bipush (v := (-14)) dX6_sheet_52 (by decide) ?_
              refine ev_reti dX6_sheet_54 rfl (Nat.zero_le _) (Nat.zero_le _) ?_
              refine am_qDi (B := A) ?_ hX fr_C.rf
              simp [sp_sheet, am_inN hS (by omega), sN_n (show S < 2 ^ 31 by omega), c2, c3, hsb, c4, c5, c6] <;> decide
          · skip
            refine ev_bipush (v := (-2)) dX6_sheet_45 (by decide) ?_
            refine ev_reti dX6_sheet_47 rfl (Nat.zero_le _) (Nat.zero_le _) ?_
            refine am_qDi (B := A) ?_ hX fr_C.rf
            simp [sp_sheet, am_inN hS (by omega), sN_n (show S < 2 ^ 31 by omega), c2, c3, hsb, c4, c5] <;> decide
        · skip
          refine ev_aload dX6_sheet_30 rfl ?_
          refine ev_iconst (v := (-1)) dX6_sheet_32 (by decide) ?_
          refine ev_iconst (v := 0) dX6_sheet_33 (by decide) ?_
          refine ev_callV (as := [.int (-1), .int 0]) (st := []) dX6_sheet_34 mfX3_become lk_X6_229 (ly_s hX.ly hS).2.1 (by decide) rfl (c_X3_become G D A σ hX S hS (-1) 0) rfl rfl (Nat.le_of_ble_eq_true rfl) (am_hR (by omega) (by decide)) ⟨Nat.le_refl _, Nat.le_refl _⟩ ?_
          rintro _ _ ⟨rfl, rfl⟩
          rw [show am_bd 0 0 40 = 0 by decide]
          refine ev_iconst (v := 1) dX6_sheet_37 (by decide) ?_
          refine ev_reti dX6_sheet_38 rfl (Nat.zero_le _) (Nat.zero_le _) ?_
          refine am_qDi (B := (s_s0 (am_up (am_up A 80 S (-1)) 81 S 0) S 40)) ?_ (iv_X.fl hS (iv_X.ws2 hS (iv_X.ws1 hS hX)) 40 (Nat.le_refl _)) (fr_C.fl (by omega) (fr_C.wr (by omega) (fr_C.wr (by omega) fr_C.rf)) 40)
          simp [sp_sheet, am_inN hS (by omega), sN_n (show S < 2 ^ 31 by omega), c2, c3, hsb, c4] <;> decide
      · skip
        have hsb := am_sbF (t := b) (fun z => c3 z.2)
        refine ev_bipush (v := (-2)) dX6_sheet_22 (by decide) ?_
        refine ev_reti dX6_sheet_24 rfl (Nat.zero_le _) (Nat.zero_le _) ?_
        refine am_qDi (B := A) ?_ hX fr_C.rf
        simp [sp_sheet, am_inN hS (by omega), sN_n (show S < 2 ^ 31 by omega), c2, c3, hsb] <;> decide
  · skip
    refine ev_astoreN (lv' := [(0, .ref 32), (1, .int s), (2, .int b), (3, .int n), (4, .null)]) dX6_sheet_5 (by decide) rfl ?_
    refine ev_aloadN dX6_sheet_7 rfl ?_
    refine ev_ifnullN (tgt := 22) dX6_sheet_9 (by decide) ?_
    refine ev_bipush (v := (-2)) dX6_sheet_22 (by decide) ?_
    refine ev_reti dX6_sheet_24 rfl (Nat.zero_le _) (Nat.zero_le _) ?_
    refine am_qDi (B := A) ?_ hX fr_C.rf
    simp [sp_sheet, am_inF (by decide) hn1] <;> decide

theorem s_un6 {A : am_S} {P : Nat} (hA : wf_A A) (hP : P < s_np A) : s_un (A 66 P) 6 = false := by
  obtain ⟨⟨K, hK, e⟩, -⟩ := wf_pp hA P hP
  rw [e]
  rcases (show K = 0 ∨ K = 1 ∨ K = 2 ∨ K = 3 ∨ K = 4 ∨ K = 5 by omega) with rfl | rfl | rfl | rfl | rfl | rfl <;> decide
set_option maxHeartbeats 400000 in
set_option maxRecDepth 100000 in
theorem c_X6_taken (G : am_G) (D : Nat) (A : am_S) (σ : am_M) (hA : wf_A A) (hX : iv_X A σ) (i k : Int32) : am_Mt G (D + 1) mX6_taken [.ref 32, .int i, .int k] σ 0 0 (am_q (.int (sp_taken A i k)) σ) := by
  have b7 := wf_np7 hA
  have b8 := wf_nq8 hA
  have b6 := wf_nt6 hA
  have b61 := wf_nt1 hA
  have b160 := wf_tp160 hA
  have brl := wf_rlt hA
  refine am_of moX6_taken (Nat.le_of_ble_eq_true rfl) ?_
  show am_Ev G mX6_taken (am_R (D + 1) 0 0) 0 0 (am_q (.int (sp_taken A i k)) σ) 0 [(0, .ref 32), (1, .int i), (2, .int k)] [] σ 0 0
  refine ev_iload_n dX6_taken_0 rfl rfl ?_
  refine ev_if_lt (tgt := 10) dX6_taken_1 (by decide) (fun c1 => ?_) (fun c1 => ?_)
  · skip
    refine ev_bipush (v := (-2)) dX6_taken_10 (by decide) ?_
    refine ev_reti dX6_taken_12 rfl (Nat.zero_le _) (Nat.zero_le _) ?_
    exact ⟨by simp [sp_taken, (show am_in 6 7 = true by decide), c1, (am_inF (x := k) (n := 7) (by decide) (am_rgn (by decide) c1))], rfl⟩
  · skip
    refine ev_iload_n dX6_taken_4 rfl rfl ?_
    refine ev_bipush (v := 6) dX6_taken_5 (by decide) ?_
    refine ev_icmp_le (tgt := 13) dX6_taken_7 (by decide) (fun c2 => ?_) (fun c2 => ?_)
    · skip
      obtain ⟨K, hK7, hKe⟩ : am_rg k 7 := am_rg3 (c := 6) (by decide) c1 c2
      have hk7 : am_in k 7 = true := by rw [hKe]; exact am_inN hK7 (by decide)
      refine ev_iload_n dX6_taken_13 rfl rfl ?_
      refine ev_if_lt (tgt := 23) dX6_taken_14 (by decide) (fun c3 => ?_) (fun c3 => ?_)
      · skip
        refine ev_bipush (v := (-12)) dX6_taken_23 (by decide) ?_
        refine ev_reti dX6_taken_25 rfl (Nat.zero_le _) (Nat.zero_le _) ?_
        exact ⟨by simp [sp_taken, (show am_in 6 7 = true by decide), hk7, c1, c2, c3, (am_inF (x := i) (n := 15) (by decide) (am_rgn (by decide) c3))], rfl⟩
      · skip
        refine ev_iload_n dX6_taken_17 rfl rfl ?_
        refine ev_bipush (v := 15) dX6_taken_18 (by decide) ?_
        refine ev_icmp_lt (tgt := 26) dX6_taken_20 (by decide) (fun c4 => ?_) (fun c4 => ?_)
        · skip
          obtain ⟨J, hJ, rfl⟩ : am_rg i 15 := am_rg1 (c := 15) (by decide) c3 c4
          refine ev_iload_n dX6_taken_26 rfl rfl ?_
          refine ev_bipush (v := 8) dX6_taken_27 (by decide) ?_
          refine ev_icmp_ge (tgt := 61) dX6_taken_29 (by decide) (fun c5 => ?_) (fun c5 => ?_)
          · skip
            have c5n : 8 ≤ J := (nI_leI (a := 8) (b := J) (by omega) (by omega)).mp c5
            by_cases hp : J - 8 < s_np A
            · skip
              obtain ⟨g, hg⟩ := hX.ge hp
              refine ev_aload_n dX6_taken_61 rfl rfl ?_
              refine ev_iload_n dX6_taken_62 rfl rfl ?_
              refine ev_bipush (v := 8) dX6_taken_63 (by decide) ?_
              refine ev_isub (v := nI (J - 8)) dX6_taken_65 (pk_sub (a := J) (b := 8) (by omega)) ?_
              refine ev_callV (as := [.int (nI (J - 8))]) (st := []) dX6_taken_66 mfX6_personAt lk_X6_128 (ly_k hX.ly 32 rfl) (by decide) rfl (c_X6_personAtN G D A σ hA hX (J - 8) g hp hg) rfl rfl (Nat.le_of_ble_eq_true rfl) (am_hR (by omega) (by decide)) ⟨Nat.le_refl _, Nat.le_refl _⟩ ?_
              rintro _ _ ⟨rfl, rfl⟩
              refine ev_astore_n (lv' := [(0, .ref 32), (1, .int (nI J)), (2, .int k), (3, .ref g)]) dX6_taken_69 rfl (by decide) rfl ?_
              refine ev_aload_n dX6_taken_70 rfl rfl ?_
              refine ev_ifnonnullR (tgt := 77) dX6_taken_71 (by decide) ?_
              refine ev_aload_n dX6_taken_77 rfl rfl ?_
              refine ev_iload_n dX6_taken_78 rfl rfl ?_
              refine ev_callV (as := [.int k]) (st := []) dX6_taken_79 mfX1_isOf lk_X6_292 (hX.gk hp hg) (by decide) rfl (c_X1_isOf G D A σ hA hX (J - 8) g hp hg k _ _ rfl rfl) rfl rfl (Nat.le_of_ble_eq_true rfl) (am_hR (by omega) (by decide)) ⟨Nat.le_refl _, Nat.le_refl _⟩ ?_
              rintro _ _ ⟨rfl, rfl⟩
              refine ev_if_eq (tgt := 92) dX6_taken_82 (by decide) (fun c6 => ?_) (fun c6 => ?_)
              · skip
                have hun : s_un (A 66 (J - 8)) k = false := s_b20.mp c6
                refine ev_bipush (v := (-13)) dX6_taken_92 (by decide) ?_
                refine ev_reti dX6_taken_94 rfl (Nat.zero_le _) (Nat.zero_le _) ?_
                exact ⟨by simp [sp_taken, (show am_in 6 7 = true by decide), hk7, am_inN hJ (by omega), sN_n (show J < 2 ^ 31 by omega), (show ¬ nI J < 8 from Int32.not_lt.mpr c5), hp, c1, c2, c3, c4, c5, c6, hun], rfl⟩
              · skip
                have hun : s_un (A 66 (J - 8)) k = true := by cases hz : s_un (A 66 (J - 8)) k with | true => rfl | false => exact absurd (s_b20.mpr hz) c6
                refine ev_iload_n dX6_taken_85 rfl rfl ?_
                refine ev_bipush (v := 8) dX6_taken_86 (by decide) ?_
                refine ev_isub (v := nI (J - 8)) dX6_taken_88 (pk_sub (a := J) (b := 8) (by omega)) ?_
                refine ev_goto (tgt := 94) dX6_taken_89 (by decide) ?_
                refine ev_reti dX6_taken_94 rfl (Nat.zero_le _) (Nat.zero_le _) ?_
                have hk6 : ¬ k = 6 := fun z => by subst z; exact absurd hun (by rw [s_un6 hA hp]; exact Bool.false_ne_true)
                exact ⟨by simp [sp_taken, (show am_in 6 7 = true by decide), hk7, am_inN hJ (by omega), sN_n (show J < 2 ^ 31 by omega), (show ¬ nI J < 8 from Int32.not_lt.mpr c5), hp, c1, c2, c3, c4, c5, c6, hun, hk6], rfl⟩
            · skip
              refine ev_aload_n dX6_taken_61 rfl rfl ?_
              refine ev_iload_n dX6_taken_62 rfl rfl ?_
              refine ev_bipush (v := 8) dX6_taken_63 (by decide) ?_
              refine ev_isub (v := nI (J - 8)) dX6_taken_65 (pk_sub (a := J) (b := 8) (by omega)) ?_
              refine ev_callV (as := [.int (nI (J - 8))]) (st := []) dX6_taken_66 mfX6_personAt lk_X6_128 (ly_k hX.ly 32 rfl) (by decide) rfl (c_X6_personAt G D A σ hA hX (nI (J - 8))) rfl rfl (Nat.le_of_ble_eq_true rfl) (am_hR (by omega) (by decide)) ⟨Nat.le_refl _, Nat.le_refl _⟩ ?_
              rintro _ _ (⟨P, g, he, hP, -⟩ | ⟨-, rfl, rfl⟩)
              · skip
                exact absurd ((nI_eq (by omega) (by omega)).mp he) (by omega)
              · skip
                refine ev_astore_nN (lv' := [(0, .ref 32), (1, .int (nI J)), (2, .int k), (3, .null)]) dX6_taken_69 rfl (by decide) rfl ?_
                refine ev_aload_nN dX6_taken_70 rfl rfl ?_
                refine ev_ifnonnullN dX6_taken_71 ?_
                refine ev_bipush (v := (-11)) dX6_taken_74 (by decide) ?_
                refine ev_reti dX6_taken_76 rfl (Nat.zero_le _) (Nat.zero_le _) ?_
                exact ⟨by simp [sp_taken, (show am_in 6 7 = true by decide), hk7, am_inN hJ (by omega), sN_n (show J < 2 ^ 31 by omega), (show ¬ nI J < 8 from Int32.not_lt.mpr c5), hp, c1, c2, c3, c4, c5], rfl⟩
          · skip
            have c5n : ¬ 8 ≤ J := fun zz => c5 ((nI_leI (a := 8) (b := J) (by omega) (by omega)).mpr zz)
            by_cases hq : J < s_nq A
            · skip
              refine ev_aload_n dX6_taken_32 rfl rfl ?_
              refine ev_iload_n dX6_taken_33 rfl rfl ?_
              refine ev_callV (as := [.int (nI J)]) (st := []) dX6_taken_34 mfX6_isQuestion lk_X6_155 (ly_k hX.ly 32 rfl) (by decide) rfl (c_X6_isQuestion G D A σ hA hX (nI J)) rfl rfl (Nat.le_of_ble_eq_true rfl) (am_hR (by omega) (by decide)) ⟨Nat.le_refl _, Nat.le_refl _⟩ ?_
              rintro _ _ (⟨-, rfl, rfl⟩ | ⟨hn, rfl, rfl⟩)
              · skip
                refine ev_if_ne (tgt := 43) dX6_taken_37 (by decide) (fun _ => ?_) (fun c => absurd c (by decide))
                refine ev_iload_n dX6_taken_43 rfl rfl ?_
                refine ev_bipush (v := 6) dX6_taken_44 (by decide) ?_
                refine ev_icmp_ne (tgt := 58) dX6_taken_46 (by decide) (fun c7 => ?_) (fun c7 => ?_)
                · skip
                  refine ev_bipush (v := (-13)) dX6_taken_58 (by decide) ?_
                  refine ev_reti dX6_taken_60 rfl (Nat.zero_le _) (Nat.zero_le _) ?_
                  exact ⟨by simp [sp_taken, (show am_in 6 7 = true by decide), hk7, am_inN hJ (by omega), sN_n (show J < 2 ^ 31 by omega), (show  nI J < 8 from Int32.not_le.mp c5), hq, c1, c2, c3, c4, c5, c7], rfl⟩
                · skip
                  refine ev_aload_n dX6_taken_49 rfl rfl ?_
                  refine ev_getR (b := 35) dX6_taken_50 fl_X6_19 (ly_k hX.ly 32 rfl) (ly_r hX.ly 2 rfl) ?_
                  refine ev_iload_n dX6_taken_53 rfl rfl ?_
                  refine ev_iald (v := A 72 J) dX6_taken_54 (ly_k hX.ly 35 rfl) (am_ixn (by omega) (by decide)) (hX.r35 J) ?_
                  refine ev_goto (tgt := 60) dX6_taken_55 (by decide) ?_
                  refine ev_reti dX6_taken_60 rfl (Nat.zero_le _) (Nat.zero_le _) ?_
                  exact ⟨by simp [sp_taken, (show am_in 6 7 = true by decide), hk7, am_inN hJ (by omega), sN_n (show J < 2 ^ 31 by omega), (show  nI J < 8 from Int32.not_le.mp c5), hq, c1, c2, c3, c4, c5, c7], rfl⟩
              · skip
                exact absurd ⟨J, hq, rfl⟩ hn
            · skip
              refine ev_aload_n dX6_taken_32 rfl rfl ?_
              refine ev_iload_n dX6_taken_33 rfl rfl ?_
              refine ev_callV (as := [.int (nI J)]) (st := []) dX6_taken_34 mfX6_isQuestion lk_X6_155 (ly_k hX.ly 32 rfl) (by decide) rfl (c_X6_isQuestion G D A σ hA hX (nI J)) rfl rfl (Nat.le_of_ble_eq_true rfl) (am_hR (by omega) (by decide)) ⟨Nat.le_refl _, Nat.le_refl _⟩ ?_
              rintro _ _ (⟨⟨y, hy, he⟩, rfl, rfl⟩ | ⟨-, rfl, rfl⟩)
              · skip
                exact absurd ((nI_eq (by omega) (by omega)).mp he) (by omega)
              · skip
                refine ev_if_ne (tgt := 43) dX6_taken_37 (by decide) (fun c => absurd (by decide) c) (fun _ => ?_)
                refine ev_bipush (v := (-11)) dX6_taken_40 (by decide) ?_
                refine ev_reti dX6_taken_42 rfl (Nat.zero_le _) (Nat.zero_le _) ?_
                exact ⟨by simp [sp_taken, (show am_in 6 7 = true by decide), hk7, am_inN hJ (by omega), sN_n (show J < 2 ^ 31 by omega), (show  nI J < 8 from Int32.not_le.mp c5), hq, c1, c2, c3, c4, c5], rfl⟩
        · skip
          refine ev_bipush (v := (-12)) dX6_taken_23 (by decide) ?_
          refine ev_reti dX6_taken_25 rfl (Nat.zero_le _) (Nat.zero_le _) ?_
          exact ⟨by simp [sp_taken, (show am_in 6 7 = true by decide), hk7, c1, c2, c3, c4, (am_inF (x := i) (n := 15) (by decide) (am_rgm2 (c := 15) (by decide) c4))], rfl⟩
    · skip
      refine ev_bipush (v := (-2)) dX6_taken_10 (by decide) ?_
      refine ev_reti dX6_taken_12 rfl (Nat.zero_le _) (Nat.zero_le _) ?_
      exact ⟨by simp [sp_taken, (show am_in 6 7 = true by decide), c1, c2, (am_inF (x := k) (n := 7) (by decide) (am_rgm3 (c := 6) (by decide) (by decide) c2))], rfl⟩

