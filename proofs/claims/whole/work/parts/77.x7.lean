/-! the class: answers, scores, who is to join or leave, told sheets -/
theorem c_worthT (G : am_G) (D : Nat) (A : am_S) (σ : am_M) (hA : wf_A A) (hX : iv_X A σ) (T : Nat) (j : Int32) (hc : cb_X A σ) : am_Mt G D mX0_worth [.ref 54, .int (nI (mk_m (s_rt A (s_se A T)) (s_nq A))), .int j] σ 0 0 (am_q (.int (s_jk A T j)) σ) := by
  have h := c_X0_worth G D A σ hA hX (mk_m (s_rt A (s_se A T)) (s_nq A)) (mk_31 (by have := wf_nq8 hA; omega)) j hc
  rw [s_scW] at h
  exact h
theorem am_w3i {w : Int32} (h1 : ¬ w < 0) (h2 : w ≤ 2) : w = 0 ∨ w = 1 ∨ w = 2 := by
  obtain ⟨W, hW, rfl⟩ : am_rg w 3 := am_rg3 (c := 2) (by decide) h1 h2
  rcases (show W = 0 ∨ W = 1 ∨ W = 2 by omega) with rfl | rfl | rfl
  · exact Or.inl rfl
  · exact Or.inr (Or.inl rfl)
  · exact Or.inr (Or.inr rfl)
theorem s_sc_cg {A : am_S} {S S' : Nat → Bool} {j : Int32} {F : Nat → Bool} (h : ∀ p, p < s_np A → S p = S' p) : s_sc A S j F = s_sc A S' j F := by
  unfold s_sc
  refine s_wo_cg fun q _ => ?_
  rw [s_rt_cg h]
theorem s_wiE {A : am_S} {T p : Nat} {v : Int32} : s_wi A T p v = s_sc A (s_se (am_up A 69 p v) T) (A 73 T) (fun _ => true) := by
  unfold s_wi s_now
  rw [s_eq69.sc, am_ua (by decide)]
theorem s_se69 {A : am_S} {T p y : Nat} {v : Int32} : s_se (am_up A 69 p v) T y = if y = p then decide (v = nI T) else s_se A T y := by
  unfold s_se
  by_cases h : y = p
  · subst h; rw [if_pos rfl, am_us]
  · rw [if_neg h, am_uk h]
theorem s_ifJ {A : am_S} {T p : Nat} (hp : p < s_np A) : s_sc A (fun y => (mk_m (s_se A T) (s_np A) ||| 2 ^ p).testBit y) (A 73 T) (fun _ => true) = s_wi A T p (nI T) := by
  rw [s_wiE]
  refine s_sc_cg fun y hy => ?_
  rw [s_se69, Nat.testBit_or, mk_tb, Nat.testBit_two_pow]
  by_cases h : y = p
  · subst h; simp
  · simp [h, hy, Ne.symm h]
theorem s_ifS {A : am_S} {T p : Nat} (hs : s_se A T p = true) : s_sc A (fun y => (mk_m (s_se A T) (s_np A) ||| 2 ^ p).testBit y) (A 73 T) (fun _ => true) = s_now A T := by
  unfold s_now
  refine s_sc_cg fun y hy => ?_
  rw [Nat.testBit_or, mk_tb, Nat.testBit_two_pow]
  by_cases h : y = p
  · subst h; simp [hy, hs]
  · simp [h, hy, Ne.symm h]
theorem mk_and2 {a b n : Nat} (h : a < 2 ^ n) (hn : n ≤ 31) : nI a &&& (nI b ^^^ (-1)) = nI (mk_m (fun q => a.testBit q && !b.testBit q) n) := by
  apply Int32.toBitVec_inj.1
  show BitVec.ofNat 32 a &&& (BitVec.ofNat 32 b ^^^ (-1 : Int32).toBitVec) = BitVec.ofNat 32 (mk_m (fun q => a.testBit q && !b.testBit q) n)
  have e : (-1 : Int32).toBitVec = BitVec.allOnes 32 := by decide
  rw [e]
  apply BitVec.eq_of_getLsbD_eq
  intro i hi
  rw [BitVec.getLsbD_and, BitVec.getLsbD_xor, BitVec.getLsbD_allOnes, BitVec.getLsbD_ofNat, BitVec.getLsbD_ofNat, BitVec.getLsbD_ofNat, mk_tb, decide_eq_true hi, Bool.true_and, Bool.true_and, Bool.true_and, Bool.xor_true]
  by_cases hk : i < n
  · simp [hk]
  · rw [mk_hi h (Nat.not_lt.mp hk)]; simp
theorem s_ifL {A : am_S} {T p : Nat} (hT : T < 3) : s_sc A (fun y => (mk_m (fun q => (mk_m (s_se A T) (s_np A)).testBit q && !(2 ^ p).testBit q) (s_np A)).testBit y) (A 73 T) (fun _ => true) = s_wi A T p (-1) := by
  rw [s_wiE]
  refine s_sc_cg fun y hy => ?_
  rw [s_se69, mk_tb, mk_tb, Nat.testBit_two_pow]
  by_cases h : y = p
  · subst h
    have e : ¬ (-1 : Int32) = nI T := fun z => absurd (show nI T < 0 by rw [← z]; decide) (nI_pos (by omega))
    simp [e]
  · simp [h, hy, Ne.symm h]
theorem s_beM {A : am_S} {T q : Nat} : s_be A (fun p => (mk_m (s_se A T) (s_np A)).testBit p) q = s_be A (s_se A T) q := s_bl_cg fun p hp => by rw [mk_tb]; simp [hp]
theorem s_kgM {A : am_S} {T q : Nat} : mk_m (fun p => (mk_m (s_se A T) (s_np A)).testBit p && s_cn A p q) (s_np A) = s_kg A T q := mk_ext fun p hp => by rw [mk_tb]; simp [hp]
theorem s_anM {A : am_S} {T q : Nat} : s_an A (mk_m (s_se A T) (s_np A)) q (s_np A) = decide (s_kg A T q ≠ 0) := by
  rw [← s_kgM]
  by_cases h : mk_m (fun p => (mk_m (s_se A T) (s_np A)).testBit p && s_cn A p q) (s_np A) = 0
  · rw [s_anF h, h]; rfl
  · rw [s_anT h, decide_eq_true h]
theorem s_msM {A : am_S} {T : Nat} (h8 : s_nq A ≤ 8) : nI (s_cv A (mk_m (s_se A T) (s_np A))) &&& (nI (mk_m (s_rt A (s_se A T)) (s_nq A)) ^^^ (-1)) = nI (s_ms A T) := by
  unfold s_cv
  rw [mk_and2 (n := s_nq A) (mk_lt _ _) (by omega)]
  congr 1
  refine mk_ext fun q hq => ?_
  rw [mk_tb, mk_tb, s_anM]
  simp [hq, Bool.and_comm]
theorem s_nowR {A : am_S} (h8 : s_nq A ≤ 8) (T : Nat) : ∃ k, k ≤ 1584 ∧ s_now A T = nI k := s_scR h8 _ _ _
theorem s_bjY {A : am_S} {T n : Nat} (h : (s_bj A T n).2 < s_jk A T (nI n)) : s_bj A T (n + 1) = (some n, s_jk A T (nI n)) := if_pos h
theorem s_bjN {A : am_S} {T n : Nat} (h : ¬ (s_bj A T n).2 < s_jk A T (nI n)) : s_bj A T (n + 1) = s_bj A T n := if_neg h
theorem s_jxS {A : am_S} {T n : Nat} (h : s_se A T n = true) : s_jo A T (n + 1) = s_jo A T n := if_pos h
theorem s_jxY {A : am_S} {T n : Nat} (h : s_se A T n = false) (h2 : (s_jo A T n).2 < s_wi A T n (nI T)) : s_jo A T (n + 1) = (some n, s_wi A T n (nI T)) := (if_neg (by rw [h]; exact Bool.false_ne_true)).trans (if_pos h2)
theorem s_jxN {A : am_S} {T n : Nat} (h : s_se A T n = false) (h2 : ¬ (s_jo A T n).2 < s_wi A T n (nI T)) : s_jo A T (n + 1) = s_jo A T n := (if_neg (by rw [h]; exact Bool.false_ne_true)).trans (if_neg h2)
theorem s_jxG {A : am_S} {T : Nat} : ∀ n, s_now A T ≤ (s_jo A T n).2
  | 0 => Int32.le_refl _
  | n + 1 => by
    have ih := s_jxG (A := A) (T := T) n
    cases h : s_se A T n with
    | true => rw [s_jxS h]; exact ih
    | false =>
      by_cases h2 : (s_jo A T n).2 < s_wi A T n (nI T)
      · rw [s_jxY h h2]
        exact Int32.le_of_lt (Int32.lt_of_le_of_lt ih h2)
      · rw [s_jxN h h2]; exact ih
set_option maxHeartbeats 400000 in
set_option maxRecDepth 100000 in
theorem c_X6_answer (G : am_G) (D : Nat) (A : am_S) (σ : am_M) (hA : wf_A A) (hX : iv_X A σ) (t q w : Int32) : am_Mt G (D + 6) mX6_answer [.ref 32, .int t, .int q, .int w] σ 0 0 (am_qC A (.int (sp_answer A t q w)) σ) := by
  have b7 := wf_np7 hA
  have b8 := wf_nq8 hA
  have b6 := wf_nt6 hA
  have b61 := wf_nt1 hA
  have b160 := wf_tp160 hA
  have brl := wf_rlt hA
  refine am_of moX6_answer (Nat.le_of_ble_eq_true rfl) ?_
  show am_Ev G mX6_answer (am_R (D + 6) 0 0) 0 0 (am_qC A (.int (sp_answer A t q w)) σ) 0 [(0, .ref 32), (1, .int t), (2, .int q), (3, .int w)] [] σ 0 0
  refine ev_iload_n dX6_answer_0 rfl rfl ?_
  refine ev_callS (as := [.int t]) (st := []) dX6_answer_1 mfX6_isTable lk_X6_161 (c_X6_isTable G (D + 5) σ t) rfl rfl (Nat.le_of_ble_eq_true rfl) (am_hR (by omega) (by decide)) ⟨Nat.le_refl _, Nat.le_refl _⟩ ?_
  rintro _ _ (⟨⟨j1, h1, rfl⟩, rfl, rfl⟩ | ⟨h1, rfl, rfl⟩)
  · skip
    refine ev_if_eq (tgt := 15) dX6_answer_4 (by decide) (fun c => absurd c (by decide)) (fun _ => ?_)
    refine ev_aload_n dX6_answer_7 rfl rfl ?_
    refine ev_iload_n dX6_answer_8 rfl rfl ?_
    refine ev_callV (as := [.int q]) (st := []) dX6_answer_9 mfX6_isQuestion lk_X6_155 (ly_k hX.ly 32 rfl) (by decide) rfl (c_X6_isQuestion G (D + 5) A σ hA hX q) rfl rfl (Nat.le_of_ble_eq_true rfl) (am_hR (by omega) (by decide)) ⟨Nat.le_refl _, Nat.le_refl _⟩ ?_
    rintro _ _ (⟨⟨j2, h2, rfl⟩, rfl, rfl⟩ | ⟨h2, rfl, rfl⟩)
    · skip
      refine ev_if_ne (tgt := 18) dX6_answer_12 (by decide) (fun _ => ?_) (fun c => absurd c (by decide))
      refine ev_iload_n dX6_answer_18 rfl rfl ?_
      refine ev_if_lt (tgt := 27) dX6_answer_19 (by decide) (fun c3 => ?_) (fun c3 => ?_)
      · skip
        refine ev_bipush (v := (-7)) dX6_answer_27 (by decide) ?_
        refine ev_reti dX6_answer_29 rfl (Nat.zero_le _) (Nat.zero_le _) ?_
        refine ⟨?_, hX, fr_C.rf⟩
        simp [sp_answer, am_inN h1 (by omega), sN_n (show j1 < 2 ^ 31 by omega), am_inN h2 (by omega), sN_n (show j2 < 2 ^ 31 by omega), (show ¬ w = 0 from fun z => absurd c3 (by rw [z]; decide)), (show ¬ w = 1 from fun z => absurd c3 (by rw [z]; decide)), (show ¬ w = 2 from fun z => absurd c3 (by rw [z]; decide))]
      · skip
        refine ev_iload_n dX6_answer_22 rfl rfl ?_
        refine ev_iconst (v := 2) dX6_answer_23 (by decide) ?_
        refine ev_icmp_le (tgt := 30) dX6_answer_24 (by decide) (fun c4 => ?_) (fun c4 => ?_)
        · skip
          rcases am_w3i c3 c4 with rfl | rfl | rfl
          · skip
            refine ev_aload_n dX6_answer_30 rfl rfl ?_
            refine ev_callV (as := []) (st := []) dX6_answer_31 mfX6_reckon lk_X6_164 (ly_k hX.ly 32 rfl) (by decide) rfl (c_X6_reckon G (D + 1) A σ hA hX ) rfl rfl (Nat.le_of_ble_eq_true rfl) (am_hR (by omega) (by decide)) ⟨Nat.le_refl _, Nat.le_refl _⟩ ?_
            rintro _ σ5 ⟨rfl, hX5, hF5, hc5, hr5⟩
            refine ev_aload_n dX6_answer_34 rfl rfl ?_
            refine ev_iload_n dX6_answer_35 rfl rfl ?_
            refine ev_callV (as := [.int (nI j1)]) (st := []) dX6_answer_36 mfX6_seatedAt lk_X6_167 (ly_k hX5.ly 32 rfl) (by decide) rfl (c_X6_seatedAt G (D + 4) A σ5 hA hX5 j1) rfl rfl (Nat.le_of_ble_eq_true rfl) (am_hR (by omega) (by decide)) ⟨Nat.le_refl _, Nat.le_refl _⟩ ?_
            rintro _ _ ⟨rfl, rfl⟩
            refine ev_istore (lv' := [(0, .ref 32), (1, .int (nI j1)), (2, .int (nI j2)), (3, .int 0), (4, .int (nI (mk_m (s_se A j1) (s_np A))))]) dX6_answer_39 (by decide) rfl ?_
            refine ev_iload_n dX6_answer_41 rfl rfl ?_
            refine ev_lookup (tgt := 68) (off := 26) dX6_answer_42 (by decide) (by decide) (by decide) ?_
            refine ev_aload_n dX6_answer_68 rfl rfl ?_
            refine ev_getR (b := 54) dX6_answer_69 fl_X6_55 (ly_k hX5.ly 32 rfl) (ly_r hX5.ly 8 rfl) ?_
            refine ev_iload dX6_answer_72 rfl ?_
            refine ev_iload_n dX6_answer_74 rfl rfl ?_
            refine ev_callV (as := [.int (nI (mk_m (s_se A j1) (s_np A))), .int (nI j2)]) (st := []) dX6_answer_75 mfX0_believed lk_X6_170 (ly_k hX5.ly 54 rfl) (by decide) rfl (c_X0_believed G (D + 5) A σ5 hA hX5 (mk_m (s_se A j1) (s_np A)) mk_np j2 (by omega) hc5) rfl rfl (Nat.le_of_ble_eq_true rfl) (am_hR (by omega) (by decide)) ⟨Nat.le_refl _, Nat.le_refl _⟩ ?_
            rintro _ _ ⟨rfl, rfl⟩
            refine ev_reti dX6_answer_78 rfl (Nat.zero_le _) (Nat.zero_le _) ?_
            refine ⟨?_, hX5, (fr_C.tr fr_C.rf hF5)⟩
            simp [sp_answer, am_inN h1 (by omega), sN_n (show j1 < 2 ^ 31 by omega), am_inN h2 (by omega), sN_n (show j2 < 2 ^ 31 by omega), s_beM]
          · skip
            refine ev_aload_n dX6_answer_30 rfl rfl ?_
            refine ev_callV (as := []) (st := []) dX6_answer_31 mfX6_reckon lk_X6_164 (ly_k hX.ly 32 rfl) (by decide) rfl (c_X6_reckon G (D + 1) A σ hA hX ) rfl rfl (Nat.le_of_ble_eq_true rfl) (am_hR (by omega) (by decide)) ⟨Nat.le_refl _, Nat.le_refl _⟩ ?_
            rintro _ σ6 ⟨rfl, hX6, hF6, hc6, hr6⟩
            refine ev_aload_n dX6_answer_34 rfl rfl ?_
            refine ev_iload_n dX6_answer_35 rfl rfl ?_
            refine ev_callV (as := [.int (nI j1)]) (st := []) dX6_answer_36 mfX6_seatedAt lk_X6_167 (ly_k hX6.ly 32 rfl) (by decide) rfl (c_X6_seatedAt G (D + 4) A σ6 hA hX6 j1) rfl rfl (Nat.le_of_ble_eq_true rfl) (am_hR (by omega) (by decide)) ⟨Nat.le_refl _, Nat.le_refl _⟩ ?_
            rintro _ _ ⟨rfl, rfl⟩
            refine ev_istore (lv' := [(0, .ref 32), (1, .int (nI j1)), (2, .int (nI j2)), (3, .int 1), (4, .int (nI (mk_m (s_se A j1) (s_np A))))]) dX6_answer_39 (by decide) rfl ?_
            refine ev_iload_n dX6_answer_41 rfl rfl ?_
            refine ev_lookup (tgt := 79) (off := 37) dX6_answer_42 (by decide) (by decide) (by decide) ?_
            refine ev_aload_n dX6_answer_79 rfl rfl ?_
            refine ev_getR (b := 59) dX6_answer_80 fl_X6_59 (ly_k hX6.ly 32 rfl) (ly_r hX6.ly 9 rfl) ?_
            refine ev_iload_n dX6_answer_83 rfl rfl ?_
            refine ev_iald (v := nI (mk_m (s_rt A (s_se A j1)) (s_nq A))) dX6_answer_84 (ly_k hX6.ly 59 rfl) (am_ixn (by omega) (by decide)) (hr6 j1 (by omega)) ?_
            refine ev_iload_n dX6_answer_85 rfl rfl ?_
            refine ev_ishr (v := (nI (mk_m (s_rt A (s_se A j1)) (s_nq A))) >>> ((nI j2) &&& 31)) dX6_answer_86 rfl ?_
            refine ev_iconst (v := 1) dX6_answer_87 (by decide) ?_
            refine ev_iand (v := (if s_rt A (s_se A j1) j2 then 1 else 0)) dX6_answer_88 (by rw [mk_get (by omega) (by omega)]; cases s_rt A _ _ <;> rfl) ?_
            refine ev_reti dX6_answer_89 rfl (Nat.zero_le _) (Nat.zero_le _) ?_
            refine ⟨?_, hX6, (fr_C.tr fr_C.rf hF6)⟩
            simp [sp_answer, am_inN h1 (by omega), sN_n (show j1 < 2 ^ 31 by omega), am_inN h2 (by omega), sN_n (show j2 < 2 ^ 31 by omega)]
          · skip
            refine ev_aload_n dX6_answer_30 rfl rfl ?_
            refine ev_callV (as := []) (st := []) dX6_answer_31 mfX6_reckon lk_X6_164 (ly_k hX.ly 32 rfl) (by decide) rfl (c_X6_reckon G (D + 1) A σ hA hX ) rfl rfl (Nat.le_of_ble_eq_true rfl) (am_hR (by omega) (by decide)) ⟨Nat.le_refl _, Nat.le_refl _⟩ ?_
            rintro _ σ7 ⟨rfl, hX7, hF7, hc7, hr7⟩
            refine ev_aload_n dX6_answer_34 rfl rfl ?_
            refine ev_iload_n dX6_answer_35 rfl rfl ?_
            refine ev_callV (as := [.int (nI j1)]) (st := []) dX6_answer_36 mfX6_seatedAt lk_X6_167 (ly_k hX7.ly 32 rfl) (by decide) rfl (c_X6_seatedAt G (D + 4) A σ7 hA hX7 j1) rfl rfl (Nat.le_of_ble_eq_true rfl) (am_hR (by omega) (by decide)) ⟨Nat.le_refl _, Nat.le_refl _⟩ ?_
            rintro _ _ ⟨rfl, rfl⟩
            refine ev_istore (lv' := [(0, .ref 32), (1, .int (nI j1)), (2, .int (nI j2)), (3, .int 2), (4, .int (nI (mk_m (s_se A j1) (s_np A))))]) dX6_answer_39 (by decide) rfl ?_
            refine ev_iload_n dX6_answer_41 rfl rfl ?_
            refine ev_lookup (tgt := 90) (off := 48) dX6_answer_42 (by decide) (by decide) (by decide) ?_
            refine ev_aload_n dX6_answer_90 rfl rfl ?_
            refine ev_getR (b := 54) dX6_answer_91 fl_X6_55 (ly_k hX7.ly 32 rfl) (ly_r hX7.ly 8 rfl) ?_
            refine ev_iload dX6_answer_94 rfl ?_
            refine ev_iload_n dX6_answer_96 rfl rfl ?_
            refine ev_callV (as := [.int (nI (mk_m (s_se A j1) (s_np A))), .int (nI j2)]) (st := []) dX6_answer_97 mfX0_ableOf lk_X6_174 (ly_k hX7.ly 54 rfl) (by decide) rfl (c_X0_ableOf G (D + 5) A σ7 hA hX7 (mk_m (s_se A j1) (s_np A)) j2 (by omega) hc7) rfl rfl (Nat.le_of_ble_eq_true rfl) (am_hR (by omega) (by decide)) ⟨Nat.le_refl _, Nat.le_refl _⟩ ?_
            rintro _ _ ⟨rfl, rfl⟩
            refine ev_reti dX6_answer_100 rfl (Nat.zero_le _) (Nat.zero_le _) ?_
            refine ⟨?_, hX7, (fr_C.tr fr_C.rf hF7)⟩
            simp [sp_answer, am_inN h1 (by omega), sN_n (show j1 < 2 ^ 31 by omega), am_inN h2 (by omega), sN_n (show j2 < 2 ^ 31 by omega), s_kgM]
        · skip
          refine ev_bipush (v := (-7)) dX6_answer_27 (by decide) ?_
          refine ev_reti dX6_answer_29 rfl (Nat.zero_le _) (Nat.zero_le _) ?_
          refine ⟨?_, hX, fr_C.rf⟩
          simp [sp_answer, am_inN h1 (by omega), sN_n (show j1 < 2 ^ 31 by omega), am_inN h2 (by omega), sN_n (show j2 < 2 ^ 31 by omega), (show ¬ w = 0 from fun z => absurd c4 (by rw [z]; decide)), (show ¬ w = 1 from fun z => absurd c4 (by rw [z]; decide)), (show ¬ w = 2 from fun z => absurd c4 (by rw [z]; decide))]
    · skip
      refine ev_if_ne (tgt := 18) dX6_answer_12 (by decide) (fun c => absurd (by decide) c) (fun _ => ?_)
      refine ev_bipush (v := (-5)) dX6_answer_15 (by decide) ?_
      refine ev_reti dX6_answer_17 rfl (Nat.zero_le _) (Nat.zero_le _) ?_
      refine ⟨?_, hX, fr_C.rf⟩
      simp [sp_answer, am_inN h1 (by omega), sN_n (show j1 < 2 ^ 31 by omega), am_inF (by omega) h2]
  · skip
    refine ev_if_eq (tgt := 15) dX6_answer_4 (by decide) (fun _ => ?_) (fun c => absurd (by decide) c)
    refine ev_bipush (v := (-5)) dX6_answer_15 (by decide) ?_
    refine ev_reti dX6_answer_17 rfl (Nat.zero_le _) (Nat.zero_le _) ?_
    refine ⟨?_, hX, fr_C.rf⟩
    simp [sp_answer, am_inF (by omega) h1]

set_option maxHeartbeats 400000 in
set_option maxRecDepth 100000 in
theorem c_X6_score (G : am_G) (D : Nat) (A : am_S) (σ : am_M) (hA : wf_A A) (hX : iv_X A σ) (t w : Int32) : am_Mt G (D + 6) mX6_score [.ref 32, .int t, .int w] σ 0 0 (am_qC A (.int (sp_score A t w)) σ) := by
  have b7 := wf_np7 hA
  have b8 := wf_nq8 hA
  have b6 := wf_nt6 hA
  have b61 := wf_nt1 hA
  have b160 := wf_tp160 hA
  have brl := wf_rlt hA
  refine am_of moX6_score (Nat.le_of_ble_eq_true rfl) ?_
  show am_Ev G mX6_score (am_R (D + 6) 0 0) 0 0 (am_qC A (.int (sp_score A t w)) σ) 0 [(0, .ref 32), (1, .int t), (2, .int w)] [] σ 0 0
  refine ev_iload_n dX6_score_0 rfl rfl ?_
  refine ev_callS (as := [.int t]) (st := []) dX6_score_1 mfX6_isTable lk_X6_161 (c_X6_isTable G (D + 5) σ t) rfl rfl (Nat.le_of_ble_eq_true rfl) (am_hR (by omega) (by decide)) ⟨Nat.le_refl _, Nat.le_refl _⟩ ?_
  rintro _ _ (⟨⟨j1, h1, rfl⟩, rfl, rfl⟩ | ⟨h1, rfl, rfl⟩)
  · skip
    refine ev_if_ne (tgt := 10) dX6_score_4 (by decide) (fun _ => ?_) (fun c => absurd c (by decide))
    refine ev_iload_n dX6_score_10 rfl rfl ?_
    refine ev_if_lt (tgt := 19) dX6_score_11 (by decide) (fun c2 => ?_) (fun c2 => ?_)
    · skip
      refine ev_bipush (v := (-7)) dX6_score_19 (by decide) ?_
      refine ev_reti dX6_score_21 rfl (Nat.zero_le _) (Nat.zero_le _) ?_
      refine ⟨?_, hX, fr_C.rf⟩
      simp [sp_score, am_inN h1 (by omega), sN_n (show j1 < 2 ^ 31 by omega), (show ¬ w = 0 from fun z => absurd c2 (by rw [z]; decide)), (show ¬ w = 1 from fun z => absurd c2 (by rw [z]; decide)), (show ¬ w = 2 from fun z => absurd c2 (by rw [z]; decide)), s_rs]
    · skip
      refine ev_iload_n dX6_score_14 rfl rfl ?_
      refine ev_iconst (v := 2) dX6_score_15 (by decide) ?_
      refine ev_icmp_le (tgt := 22) dX6_score_16 (by decide) (fun c3 => ?_) (fun c3 => ?_)
      · skip
        rcases am_w3i c2 c3 with rfl | rfl | rfl
        · skip
          refine ev_aload_n dX6_score_22 rfl rfl ?_
          refine ev_callV (as := []) (st := []) dX6_score_23 mfX6_reckon lk_X6_164 (ly_k hX.ly 32 rfl) (by decide) rfl (c_X6_reckon G (D + 1) A σ hA hX ) rfl rfl (Nat.le_of_ble_eq_true rfl) (am_hR (by omega) (by decide)) ⟨Nat.le_refl _, Nat.le_refl _⟩ ?_
          rintro _ σ4 ⟨rfl, hX4, hF4, hc4, hr4⟩
          refine ev_iload_n dX6_score_26 rfl rfl ?_
          refine ev_lookup (tgt := 52) (off := 25) dX6_score_27 (by decide) (by decide) (by decide) ?_
          refine ev_aload_n dX6_score_52 rfl rfl ?_
          refine ev_iload_n dX6_score_53 rfl rfl ?_
          refine ev_callV (as := [.int (nI j1)]) (st := []) dX6_score_54 mfX6_scoreNow lk_X6_177 (ly_k hX4.ly 32 rfl) (by decide) rfl (c_X6_scoreNow G (D + 4) A σ4 hA hX4 j1 (by omega) hc4 hr4) rfl rfl (Nat.le_of_ble_eq_true rfl) (am_hR (by omega) (by decide)) ⟨Nat.le_refl _, Nat.le_refl _⟩ ?_
          rintro _ _ ⟨rfl, rfl⟩
          refine ev_reti dX6_score_57 rfl (Nat.zero_le _) (Nat.zero_le _) ?_
          refine ⟨?_, hX4, (fr_C.tr fr_C.rf hF4)⟩
          simp [sp_score, am_inN h1 (by omega), sN_n (show j1 < 2 ^ 31 by omega), s_rs]
        · skip
          refine ev_aload_n dX6_score_22 rfl rfl ?_
          refine ev_callV (as := []) (st := []) dX6_score_23 mfX6_reckon lk_X6_164 (ly_k hX.ly 32 rfl) (by decide) rfl (c_X6_reckon G (D + 1) A σ hA hX ) rfl rfl (Nat.le_of_ble_eq_true rfl) (am_hR (by omega) (by decide)) ⟨Nat.le_refl _, Nat.le_refl _⟩ ?_
          rintro _ σ5 ⟨rfl, hX5, hF5, hc5, hr5⟩
          refine ev_iload_n dX6_score_26 rfl rfl ?_
          refine ev_lookup (tgt := 58) (off := 31) dX6_score_27 (by decide) (by decide) (by decide) ?_
          refine ev_aload_n dX6_score_58 rfl rfl ?_
          refine ev_getR (b := 59) dX6_score_59 fl_X6_59 (ly_k hX5.ly 32 rfl) (ly_r hX5.ly 9 rfl) ?_
          refine ev_iload_n dX6_score_62 rfl rfl ?_
          refine ev_iald (v := nI (mk_m (s_rt A (s_se A j1)) (s_nq A))) dX6_score_63 (ly_k hX5.ly 59 rfl) (am_ixn (by omega) (by decide)) (hr5 j1 (by omega)) ?_
          refine ev_reti dX6_score_64 rfl (Nat.zero_le _) (Nat.zero_le _) ?_
          refine ⟨?_, hX5, (fr_C.tr fr_C.rf hF5)⟩
          simp [sp_score, am_inN h1 (by omega), sN_n (show j1 < 2 ^ 31 by omega), s_rs]
        · skip
          refine ev_aload_n dX6_score_22 rfl rfl ?_
          refine ev_callV (as := []) (st := []) dX6_score_23 mfX6_reckon lk_X6_164 (ly_k hX.ly 32 rfl) (by decide) rfl (c_X6_reckon G (D + 1) A σ hA hX ) rfl rfl (Nat.le_of_ble_eq_true rfl) (am_hR (by omega) (by decide)) ⟨Nat.le_refl _, Nat.le_refl _⟩ ?_
          rintro _ σ6 ⟨rfl, hX6, hF6, hc6, hr6⟩
          refine ev_iload_n dX6_score_26 rfl rfl ?_
          refine ev_lookup (tgt := 65) (off := 38) dX6_score_27 (by decide) (by decide) (by decide) ?_
          refine ev_aload_n dX6_score_65 rfl rfl ?_
          refine ev_getR (b := 54) dX6_score_66 fl_X6_55 (ly_k hX6.ly 32 rfl) (ly_r hX6.ly 8 rfl) ?_
          refine ev_aload_n dX6_score_69 rfl rfl ?_
          refine ev_iload_n dX6_score_70 rfl rfl ?_
          refine ev_callV (as := [.int (nI j1)]) (st := [.ref 54]) dX6_score_71 mfX6_seatedAt lk_X6_167 (ly_k hX6.ly 32 rfl) (by decide) rfl (c_X6_seatedAt G (D + 4) A σ6 hA hX6 j1) rfl rfl (Nat.le_of_ble_eq_true rfl) (am_hR (by omega) (by decide)) ⟨Nat.le_refl _, Nat.le_refl _⟩ ?_
          rintro _ _ ⟨rfl, rfl⟩
          refine ev_callV (as := [.int (nI (mk_m (s_se A j1) (s_np A)))]) (st := []) dX6_score_74 mfX0_coveredBy lk_X6_180 (ly_k hX6.ly 54 rfl) (by decide) rfl (c_X0_coveredBy G (D + 4) A σ6 hA hX6 (mk_m (s_se A j1) (s_np A)) hc6) rfl rfl (Nat.le_of_ble_eq_true rfl) (am_hR (by omega) (by decide)) ⟨Nat.le_refl _, Nat.le_refl _⟩ ?_
          rintro _ _ ⟨rfl, rfl⟩
          refine ev_aload_n dX6_score_77 rfl rfl ?_
          refine ev_getR (b := 59) dX6_score_78 fl_X6_59 (ly_k hX6.ly 32 rfl) (ly_r hX6.ly 9 rfl) ?_
          refine ev_iload_n dX6_score_81 rfl rfl ?_
          refine ev_iald (v := nI (mk_m (s_rt A (s_se A j1)) (s_nq A))) dX6_score_82 (ly_k hX6.ly 59 rfl) (am_ixn (by omega) (by decide)) (hr6 j1 (by omega)) ?_
          refine ev_iconst (v := (-1)) dX6_score_83 (by decide) ?_
          refine ev_ixor (v := (nI (mk_m (s_rt A (s_se A j1)) (s_nq A))) ^^^ (-1)) dX6_score_84 rfl ?_
          refine ev_iand (v := nI (s_ms A j1)) dX6_score_85 (s_msM b8) ?_
          refine ev_reti dX6_score_86 rfl (Nat.zero_le _) (Nat.zero_le _) ?_
          refine ⟨?_, hX6, (fr_C.tr fr_C.rf hF6)⟩
          simp [sp_score, am_inN h1 (by omega), sN_n (show j1 < 2 ^ 31 by omega), s_rs]
      · skip
        refine ev_bipush (v := (-7)) dX6_score_19 (by decide) ?_
        refine ev_reti dX6_score_21 rfl (Nat.zero_le _) (Nat.zero_le _) ?_
        refine ⟨?_, hX, fr_C.rf⟩
        simp [sp_score, am_inN h1 (by omega), sN_n (show j1 < 2 ^ 31 by omega), (show ¬ w = 0 from fun z => absurd c3 (by rw [z]; decide)), (show ¬ w = 1 from fun z => absurd c3 (by rw [z]; decide)), (show ¬ w = 2 from fun z => absurd c3 (by rw [z]; decide)), s_rs]
  · skip
    refine ev_if_ne (tgt := 10) dX6_score_4 (by decide) (fun c => absurd (by decide) c) (fun _ => ?_)
    refine ev_bipush (v := (-5)) dX6_score_7 (by decide) ?_
    refine ev_reti dX6_score_9 rfl (Nat.zero_le _) (Nat.zero_le _) ?_
    refine ⟨?_, hX, fr_C.rf⟩
    simp [sp_score, am_inF (by omega) h1, s_rs]

set_option maxHeartbeats 400000 in
set_option maxRecDepth 100000 in
theorem c_X6_evening (G : am_G) (D : Nat) (A : am_S) (σ : am_M) (hA : wf_A A) (hX : iv_X A σ) (w : Int32) : am_Mt G (D + 6) mX6_evening [.ref 32, .int w] σ 0 0 (am_qC A (.int (sp_evening A w)) σ) := by
  have b7 := wf_np7 hA
  have b8 := wf_nq8 hA
  have b6 := wf_nt6 hA
  have b61 := wf_nt1 hA
  have b160 := wf_tp160 hA
  have brl := wf_rlt hA
  refine am_of moX6_evening (Nat.le_of_ble_eq_true rfl) ?_
  show am_Ev G mX6_evening (am_R (D + 6) 0 0) 0 0 (am_qC A (.int (sp_evening A w)) σ) 0 [(0, .ref 32), (1, .int w)] [] σ 0 0
  refine ev_iload_n dX6_evening_0 rfl rfl ?_
  refine ev_callS (as := [.int w]) (st := []) dX6_evening_1 mfX6_isZeroOrOne lk_X6_158 (c_X6_isZeroOrOne G (D + 5) σ w) rfl rfl (Nat.le_of_ble_eq_true rfl) (am_hR (by omega) (by decide)) ⟨Nat.le_refl _, Nat.le_refl _⟩ ?_
  rintro _ _ (⟨rfl | rfl, rfl, rfl⟩ | ⟨h1, rfl, rfl⟩)
  · skip
    refine ev_if_ne (tgt := 10) dX6_evening_4 (by decide) (fun _ => ?_) (fun c => absurd c (by decide))
    refine ev_aload_n dX6_evening_10 rfl rfl ?_
    refine ev_callV (as := []) (st := []) dX6_evening_11 mfX6_reckon lk_X6_164 (ly_k hX.ly 32 rfl) (by decide) rfl (c_X6_reckon G (D + 1) A σ hA hX ) rfl rfl (Nat.le_of_ble_eq_true rfl) (am_hR (by omega) (by decide)) ⟨Nat.le_refl _, Nat.le_refl _⟩ ?_
    rintro _ σ2 ⟨rfl, hX2, hF2, hc2, hr2⟩
    refine ev_iload_n dX6_evening_14 rfl rfl ?_
    refine ev_if_ne (tgt := 25) dX6_evening_15 (by decide) (fun c => absurd (by decide) c) (fun _ => ?_)
    refine ev_aload_n dX6_evening_18 rfl rfl ?_
    refine ev_callV (as := []) (st := []) dX6_evening_19 mfX6_winner lk_X6_183 (ly_k hX2.ly 32 rfl) (by decide) rfl (c_X6_winner G (D + 3) A σ2 hA hX2 hc2 hr2) rfl rfl (Nat.le_of_ble_eq_true rfl) (am_hR (by omega) (by decide)) ⟨Nat.le_refl _, Nat.le_refl _⟩ ?_
    rintro _ _ ⟨rfl, rfl⟩
    refine ev_goto (tgt := 32) dX6_evening_22 (by decide) ?_
    refine ev_reti dX6_evening_32 rfl (Nat.zero_le _) (Nat.zero_le _) ?_
    refine ⟨?_, hX2, (fr_C.tr fr_C.rf hF2)⟩
    simp [sp_evening]
  · skip
    refine ev_if_ne (tgt := 10) dX6_evening_4 (by decide) (fun _ => ?_) (fun c => absurd c (by decide))
    refine ev_aload_n dX6_evening_10 rfl rfl ?_
    refine ev_callV (as := []) (st := []) dX6_evening_11 mfX6_reckon lk_X6_164 (ly_k hX.ly 32 rfl) (by decide) rfl (c_X6_reckon G (D + 1) A σ hA hX ) rfl rfl (Nat.le_of_ble_eq_true rfl) (am_hR (by omega) (by decide)) ⟨Nat.le_refl _, Nat.le_refl _⟩ ?_
    rintro _ σ3 ⟨rfl, hX3, hF3, hc3, hr3⟩
    refine ev_iload_n dX6_evening_14 rfl rfl ?_
    refine ev_if_ne (tgt := 25) dX6_evening_15 (by decide) (fun _ => ?_) (fun c => absurd c (by decide))
    refine ev_aload_n dX6_evening_25 rfl rfl ?_
    refine ev_sipush (v := 255) dX6_evening_26 (by decide) ?_
    refine ev_callV (as := [.int 255]) (st := []) dX6_evening_29 mfX6_apartBy lk_X6_187 (ly_k hX3.ly 32 rfl) (by decide) rfl (c_X6_apartBy G (D + 4) A σ3 hA hX3 255 (by omega) hc3 hr3) rfl rfl (Nat.le_of_ble_eq_true rfl) (am_hR (by omega) (by decide)) ⟨Nat.le_refl _, Nat.le_refl _⟩ ?_
    rintro _ _ ⟨rfl, rfl⟩
    refine ev_reti dX6_evening_32 rfl (Nat.zero_le _) (Nat.zero_le _) ?_
    refine ⟨?_, hX3, (fr_C.tr fr_C.rf hF3)⟩
    simp [sp_evening, s_ap255 b8]
  · skip
    refine ev_if_ne (tgt := 10) dX6_evening_4 (by decide) (fun c => absurd (by decide) c) (fun _ => ?_)
    refine ev_bipush (v := (-2)) dX6_evening_7 (by decide) ?_
    refine ev_reti dX6_evening_9 rfl (Nat.zero_le _) (Nat.zero_le _) ?_
    refine ⟨?_, hX, fr_C.rf⟩
    simp [sp_evening, (show ¬ w = 0 from fun z => h1 (Or.inl z)), (show ¬ w = 1 from fun z => h1 (Or.inr z))]

set_option maxHeartbeats 400000 in
set_option maxRecDepth 100000 in
theorem c_X6_best (G : am_G) (D : Nat) (A : am_S) (σ : am_M) (hA : wf_A A) (hX : iv_X A σ) (t w : Int32) : am_Mt G (D + 6) mX6_best [.ref 32, .int t, .int w] σ 0 0 (am_qC A (.int (sp_best A t w)) σ) := by
  have b7 := wf_np7 hA
  have b8 := wf_nq8 hA
  have b6 := wf_nt6 hA
  have b61 := wf_nt1 hA
  have b160 := wf_tp160 hA
  have brl := wf_rlt hA
  refine am_of moX6_best (Nat.le_of_ble_eq_true rfl) ?_
  show am_Ev G mX6_best (am_R (D + 6) 0 0) 0 0 (am_qC A (.int (sp_best A t w)) σ) 0 [(0, .ref 32), (1, .int t), (2, .int w)] [] σ 0 0
  refine ev_iload_n dX6_best_0 rfl rfl ?_
  refine ev_callS (as := [.int t]) (st := []) dX6_best_1 mfX6_isTable lk_X6_161 (c_X6_isTable G (D + 5) σ t) rfl rfl (Nat.le_of_ble_eq_true rfl) (am_hR (by omega) (by decide)) ⟨Nat.le_refl _, Nat.le_refl _⟩ ?_
  rintro _ _ (⟨⟨j1, h1, rfl⟩, rfl, rfl⟩ | ⟨h1, rfl, rfl⟩)
  · skip
    refine ev_if_ne (tgt := 10) dX6_best_4 (by decide) (fun _ => ?_) (fun c => absurd c (by decide))
    refine ev_iload_n dX6_best_10 rfl rfl ?_
    refine ev_callS (as := [.int w]) (st := []) dX6_best_11 mfX6_isZeroOrOne lk_X6_158 (c_X6_isZeroOrOne G (D + 5) σ w) rfl rfl (Nat.le_of_ble_eq_true rfl) (am_hR (by omega) (by decide)) ⟨Nat.le_refl _, Nat.le_refl _⟩ ?_
    rintro _ _ (⟨rfl | rfl, rfl, rfl⟩ | ⟨h2, rfl, rfl⟩)
    · skip
      refine ev_if_ne (tgt := 20) dX6_best_14 (by decide) (fun _ => ?_) (fun c => absurd c (by decide))
      refine ev_aload_n dX6_best_20 rfl rfl ?_
      refine ev_callV (as := []) (st := []) dX6_best_21 mfX6_reckon lk_X6_164 (ly_k hX.ly 32 rfl) (by decide) rfl (c_X6_reckon G (D + 1) A σ hA hX ) rfl rfl (Nat.le_of_ble_eq_true rfl) (am_hR (by omega) (by decide)) ⟨Nat.le_refl _, Nat.le_refl _⟩ ?_
      rintro _ σ3 ⟨rfl, hX3, hF3, hc3, hr3⟩
      refine ev_iconst (v := (-1)) dX6_best_24 (by decide) ?_
      refine ev_istore_n (lv' := [(0, .ref 32), (1, .int (nI j1)), (2, .int 0), (3, .int (-1))]) dX6_best_25 rfl (by decide) rfl ?_
      refine ev_aload_n dX6_best_26 rfl rfl ?_
      refine ev_getR (b := 54) dX6_best_27 fl_X6_55 (ly_k hX3.ly 32 rfl) (ly_r hX3.ly 8 rfl) ?_
      refine ev_aload_n dX6_best_30 rfl rfl ?_
      refine ev_getR (b := 59) dX6_best_31 fl_X6_59 (ly_k hX3.ly 32 rfl) (ly_r hX3.ly 9 rfl) ?_
      refine ev_iload_n dX6_best_34 rfl rfl ?_
      refine ev_iald (v := nI (mk_m (s_rt A (s_se A j1)) (s_nq A))) dX6_best_35 (ly_k hX3.ly 59 rfl) (am_ixn (by omega) (by decide)) (hr3 j1 (by omega)) ?_
      refine ev_iconst (v := (-1)) dX6_best_36 (by decide) ?_
      refine ev_callV (as := [.int (nI (mk_m (s_rt A (s_se A j1)) (s_nq A))), .int (-1)]) (st := []) dX6_best_37 mfX0_worth lk_X6_190 (ly_k hX3.ly 54 rfl) (by decide) rfl (c_worthT G (D + 5) A σ3 hA hX3 j1 (-1) hc3) rfl rfl (Nat.le_of_ble_eq_true rfl) (am_hR (by omega) (by decide)) ⟨Nat.le_refl _, Nat.le_refl _⟩ ?_
      rintro _ _ ⟨rfl, rfl⟩
      refine ev_istore (lv' := [(0, .ref 32), (1, .int (nI j1)), (2, .int 0), (3, .int (-1)), (4, .int (s_jk A j1 (-1)))]) dX6_best_40 (by decide) rfl ?_
      refine ev_iconst (v := 0) dX6_best_42 (by decide) ?_
      refine ev_istore (lv' := [(0, .ref 32), (1, .int (nI j1)), (2, .int 0), (3, .int (-1)), (4, .int (s_jk A j1 (-1))), (5, .int 0)]) dX6_best_43 (by decide) rfl ?_
      have lp : ∀ (f : Nat) (q : Nat) (fd : Int32) (hi : Int32), (q ≤ s_nq A) → (fd = s_bi (s_bj A j1 q).1) → (hi = (s_bj A j1 q).2) → s_nq A - q < f → am_Ev G mX6_best (am_R (D + 6) 0 0) 0 0 (am_qC A (.int (sp_best A (nI j1) 0)) σ) 45 [(0, .ref 32), (1, .int (nI j1)), (2, .int 0), (3, .int fd), (4, .int hi), (5, .int (nI q))] [] σ3 0 0 := by
        intro f
        induction f with
        | zero => intro q fd hi hq hfd hhi hf; exact absurd hf (Nat.not_lt_zero _)
        | succ f ih =>
          intro q fd hi hq hfd hhi hf
          refine ev_iload dX6_best_45 rfl ?_
          refine ev_aload_n dX6_best_47 rfl rfl ?_
          refine ev_getI (v := nI (s_nq A)) dX6_best_48 fl_X6_88 (ly_k hX3.ly 32 rfl) (hX3.f13.trans (wf_nq hA)) ?_
          refine ev_icmp_ge (tgt := 91) dX6_best_51 (by decide) (fun c4 => ?_) (fun c4 => ?_)
          · skip
            have c4n : (s_nq A) ≤ q := (nI_leI (a := (s_nq A)) (b := q) (by omega) (by omega)).mp c4
            refine ev_iload_n dX6_best_91 rfl rfl ?_
            refine ev_if_ne (tgt := 99) dX6_best_92 (by decide) (fun c => absurd (by decide) c) (fun _ => ?_)
            refine ev_iload_n dX6_best_95 rfl rfl ?_
            refine ev_goto (tgt := 101) dX6_best_96 (by decide) ?_
            refine ev_reti dX6_best_101 rfl (Nat.zero_le _) (Nat.zero_le _) ?_
            have e : q = s_nq A := by omega
            subst e
            refine ⟨?_, hX3, (fr_C.tr fr_C.rf hF3)⟩
            simp [sp_best, am_inN h1 (by omega), sN_n (show j1 < 2 ^ 31 by omega), ← hfd, ← hhi]
          · skip
            have c4n : ¬ (s_nq A) ≤ q := fun zz => c4 ((nI_leI (a := (s_nq A)) (b := q) (by omega) (by omega)).mpr zz)
            refine ev_aload_n dX6_best_54 rfl rfl ?_
            refine ev_getR (b := 54) dX6_best_55 fl_X6_55 (ly_k hX3.ly 32 rfl) (ly_r hX3.ly 8 rfl) ?_
            refine ev_aload_n dX6_best_58 rfl rfl ?_
            refine ev_getR (b := 59) dX6_best_59 fl_X6_59 (ly_k hX3.ly 32 rfl) (ly_r hX3.ly 9 rfl) ?_
            refine ev_iload_n dX6_best_62 rfl rfl ?_
            refine ev_iald (v := nI (mk_m (s_rt A (s_se A j1)) (s_nq A))) dX6_best_63 (ly_k hX3.ly 59 rfl) (am_ixn (by omega) (by decide)) (hr3 j1 (by omega)) ?_
            refine ev_iload dX6_best_64 rfl ?_
            refine ev_callV (as := [.int (nI (mk_m (s_rt A (s_se A j1)) (s_nq A))), .int (nI q)]) (st := []) dX6_best_66 mfX0_worth lk_X6_190 (ly_k hX3.ly 54 rfl) (by decide) rfl (c_worthT G (D + 5) A σ3 hA hX3 j1 (nI q) hc3) rfl rfl (Nat.le_of_ble_eq_true rfl) (am_hR (by omega) (by decide)) ⟨Nat.le_refl _, Nat.le_refl _⟩ ?_
            rintro _ _ ⟨rfl, rfl⟩
            refine ev_istore (lv' := [(0, .ref 32), (1, .int (nI j1)), (2, .int 0), (3, .int fd), (4, .int hi), (5, .int (nI q)), (6, .int (s_jk A j1 (nI q)))]) dX6_best_69 (by decide) rfl ?_
            refine ev_iload dX6_best_71 rfl ?_
            refine ev_iload dX6_best_73 rfl ?_
            refine ev_icmp_le (tgt := 85) dX6_best_75 (by decide) (fun c5 => ?_) (fun c5 => ?_)
            · skip
              refine ev_iinc (lv' := [(0, .ref 32), (1, .int (nI j1)), (2, .int 0), (3, .int fd), (4, .int hi), (5, .int (nI (q + 1))), (6, .int (s_jk A j1 (nI q)))]) (v := nI (q + 1)) dX6_best_85 rfl (nI_1 _) (by decide) rfl ?_
              refine ev_goto (tgt := 45) dX6_best_88 (by decide) ?_
              refine ev_keep (lv' := [(0, .ref 32), (1, .int (nI j1)), (2, .int 0), (3, .int fd), (4, .int hi), (5, .int (nI (q + 1)))]) [0, 1, 2, 3, 4, 5] rfl ?_
              exact ih (q + 1) fd hi (by omega) (by rw [s_bjN (by rw [← hhi]; exact Int32.not_lt.mpr c5)]; exact hfd) (by rw [s_bjN (by rw [← hhi]; exact Int32.not_lt.mpr c5)]; exact hhi) (by omega)
            · skip
              refine ev_iload dX6_best_78 rfl ?_
              refine ev_istore (lv' := [(0, .ref 32), (1, .int (nI j1)), (2, .int 0), (3, .int fd), (4, .int (s_jk A j1 (nI q))), (5, .int (nI q)), (6, .int (s_jk A j1 (nI q)))]) dX6_best_80 (by decide) rfl ?_
              refine ev_iload dX6_best_82 rfl ?_
              refine ev_istore_n (lv' := [(0, .ref 32), (1, .int (nI j1)), (2, .int 0), (3, .int (nI q)), (4, .int (s_jk A j1 (nI q))), (5, .int (nI q)), (6, .int (s_jk A j1 (nI q)))]) dX6_best_84 rfl (by decide) rfl ?_
              refine ev_iinc (lv' := [(0, .ref 32), (1, .int (nI j1)), (2, .int 0), (3, .int (nI q)), (4, .int (s_jk A j1 (nI q))), (5, .int (nI (q + 1))), (6, .int (s_jk A j1 (nI q)))]) (v := nI (q + 1)) dX6_best_85 rfl (nI_1 _) (by decide) rfl ?_
              refine ev_goto (tgt := 45) dX6_best_88 (by decide) ?_
              refine ev_keep (lv' := [(0, .ref 32), (1, .int (nI j1)), (2, .int 0), (3, .int (nI q)), (4, .int (s_jk A j1 (nI q))), (5, .int (nI (q + 1)))]) [0, 1, 2, 3, 4, 5] rfl ?_
              exact ih (q + 1) (nI q) (s_jk A j1 (nI q)) (by omega) (by rw [s_bjY (by rw [← hhi]; exact Int32.not_le.mp c5)]; rfl) (by rw [s_bjY (by rw [← hhi]; exact Int32.not_le.mp c5)]) (by omega)
      exact lp _ 0 (-1) (s_jk A j1 (-1)) (Nat.zero_le _) rfl rfl (Nat.lt_succ_self _)
    · skip
      refine ev_if_ne (tgt := 20) dX6_best_14 (by decide) (fun _ => ?_) (fun c => absurd c (by decide))
      refine ev_aload_n dX6_best_20 rfl rfl ?_
      refine ev_callV (as := []) (st := []) dX6_best_21 mfX6_reckon lk_X6_164 (ly_k hX.ly 32 rfl) (by decide) rfl (c_X6_reckon G (D + 1) A σ hA hX ) rfl rfl (Nat.le_of_ble_eq_true rfl) (am_hR (by omega) (by decide)) ⟨Nat.le_refl _, Nat.le_refl _⟩ ?_
      rintro _ σ6 ⟨rfl, hX6, hF6, hc6, hr6⟩
      refine ev_iconst (v := (-1)) dX6_best_24 (by decide) ?_
      refine ev_istore_n (lv' := [(0, .ref 32), (1, .int (nI j1)), (2, .int 1), (3, .int (-1))]) dX6_best_25 rfl (by decide) rfl ?_
      refine ev_aload_n dX6_best_26 rfl rfl ?_
      refine ev_getR (b := 54) dX6_best_27 fl_X6_55 (ly_k hX6.ly 32 rfl) (ly_r hX6.ly 8 rfl) ?_
      refine ev_aload_n dX6_best_30 rfl rfl ?_
      refine ev_getR (b := 59) dX6_best_31 fl_X6_59 (ly_k hX6.ly 32 rfl) (ly_r hX6.ly 9 rfl) ?_
      refine ev_iload_n dX6_best_34 rfl rfl ?_
      refine ev_iald (v := nI (mk_m (s_rt A (s_se A j1)) (s_nq A))) dX6_best_35 (ly_k hX6.ly 59 rfl) (am_ixn (by omega) (by decide)) (hr6 j1 (by omega)) ?_
      refine ev_iconst (v := (-1)) dX6_best_36 (by decide) ?_
      refine ev_callV (as := [.int (nI (mk_m (s_rt A (s_se A j1)) (s_nq A))), .int (-1)]) (st := []) dX6_best_37 mfX0_worth lk_X6_190 (ly_k hX6.ly 54 rfl) (by decide) rfl (c_worthT G (D + 5) A σ6 hA hX6 j1 (-1) hc6) rfl rfl (Nat.le_of_ble_eq_true rfl) (am_hR (by omega) (by decide)) ⟨Nat.le_refl _, Nat.le_refl _⟩ ?_
      rintro _ _ ⟨rfl, rfl⟩
      refine ev_istore (lv' := [(0, .ref 32), (1, .int (nI j1)), (2, .int 1), (3, .int (-1)), (4, .int (s_jk A j1 (-1)))]) dX6_best_40 (by decide) rfl ?_
      refine ev_iconst (v := 0) dX6_best_42 (by decide) ?_
      refine ev_istore (lv' := [(0, .ref 32), (1, .int (nI j1)), (2, .int 1), (3, .int (-1)), (4, .int (s_jk A j1 (-1))), (5, .int 0)]) dX6_best_43 (by decide) rfl ?_
      have lp : ∀ (f : Nat) (q : Nat) (fd : Int32) (hi : Int32), (q ≤ s_nq A) → (fd = s_bi (s_bj A j1 q).1) → (hi = (s_bj A j1 q).2) → s_nq A - q < f → am_Ev G mX6_best (am_R (D + 6) 0 0) 0 0 (am_qC A (.int (sp_best A (nI j1) 1)) σ) 45 [(0, .ref 32), (1, .int (nI j1)), (2, .int 1), (3, .int fd), (4, .int hi), (5, .int (nI q))] [] σ6 0 0 := by
        intro f
        induction f with
        | zero => intro q fd hi hq hfd hhi hf; exact absurd hf (Nat.not_lt_zero _)
        | succ f ih =>
          intro q fd hi hq hfd hhi hf
          refine ev_iload dX6_best_45 rfl ?_
          refine ev_aload_n dX6_best_47 rfl rfl ?_
          refine ev_getI (v := nI (s_nq A)) dX6_best_48 fl_X6_88 (ly_k hX6.ly 32 rfl) (hX6.f13.trans (wf_nq hA)) ?_
          refine ev_icmp_ge (tgt := 91) dX6_best_51 (by decide) (fun c7 => ?_) (fun c7 => ?_)
          · skip
            have c7n : (s_nq A) ≤ q := (nI_leI (a := (s_nq A)) (b := q) (by omega) (by omega)).mp c7
            refine ev_iload_n dX6_best_91 rfl rfl ?_
            refine ev_if_ne (tgt := 99) dX6_best_92 (by decide) (fun _ => ?_) (fun c => absurd c (by decide))
            refine ev_iload dX6_best_99 rfl ?_
            refine ev_reti dX6_best_101 rfl (Nat.zero_le _) (Nat.zero_le _) ?_
            have e : q = s_nq A := by omega
            subst e
            refine ⟨?_, hX6, (fr_C.tr fr_C.rf hF6)⟩
            simp [sp_best, am_inN h1 (by omega), sN_n (show j1 < 2 ^ 31 by omega), ← hfd, ← hhi]
          · skip
            have c7n : ¬ (s_nq A) ≤ q := fun zz => c7 ((nI_leI (a := (s_nq A)) (b := q) (by omega) (by omega)).mpr zz)
            refine ev_aload_n dX6_best_54 rfl rfl ?_
            refine ev_getR (b := 54) dX6_best_55 fl_X6_55 (ly_k hX6.ly 32 rfl) (ly_r hX6.ly 8 rfl) ?_
            refine ev_aload_n dX6_best_58 rfl rfl ?_
            refine ev_getR (b := 59) dX6_best_59 fl_X6_59 (ly_k hX6.ly 32 rfl) (ly_r hX6.ly 9 rfl) ?_
            refine ev_iload_n dX6_best_62 rfl rfl ?_
            refine ev_iald (v := nI (mk_m (s_rt A (s_se A j1)) (s_nq A))) dX6_best_63 (ly_k hX6.ly 59 rfl) (am_ixn (by omega) (by decide)) (hr6 j1 (by omega)) ?_
            refine ev_iload dX6_best_64 rfl ?_
            refine ev_callV (as := [.int (nI (mk_m (s_rt A (s_se A j1)) (s_nq A))), .int (nI q)]) (st := []) dX6_best_66 mfX0_worth lk_X6_190 (ly_k hX6.ly 54 rfl) (by decide) rfl (c_worthT G (D + 5) A σ6 hA hX6 j1 (nI q) hc6) rfl rfl (Nat.le_of_ble_eq_true rfl) (am_hR (by omega) (by decide)) ⟨Nat.le_refl _, Nat.le_refl _⟩ ?_
            rintro _ _ ⟨rfl, rfl⟩
            refine ev_istore (lv' := [(0, .ref 32), (1, .int (nI j1)), (2, .int 1), (3, .int fd), (4, .int hi), (5, .int (nI q)), (6, .int (s_jk A j1 (nI q)))]) dX6_best_69 (by decide) rfl ?_
            refine ev_iload dX6_best_71 rfl ?_
            refine ev_iload dX6_best_73 rfl ?_
            refine ev_icmp_le (tgt := 85) dX6_best_75 (by decide) (fun c8 => ?_) (fun c8 => ?_)
            · skip
              refine ev_iinc (lv' := [(0, .ref 32), (1, .int (nI j1)), (2, .int 1), (3, .int fd), (4, .int hi), (5, .int (nI (q + 1))), (6, .int (s_jk A j1 (nI q)))]) (v := nI (q + 1)) dX6_best_85 rfl (nI_1 _) (by decide) rfl ?_
              refine ev_goto (tgt := 45) dX6_best_88 (by decide) ?_
              refine ev_keep (lv' := [(0, .ref 32), (1, .int (nI j1)), (2, .int 1), (3, .int fd), (4, .int hi), (5, .int (nI (q + 1)))]) [0, 1, 2, 3, 4, 5] rfl ?_
              exact ih (q + 1) fd hi (by omega) (by rw [s_bjN (by rw [← hhi]; exact Int32.not_lt.mpr c8)]; exact hfd) (by rw [s_bjN (by rw [← hhi]; exact Int32.not_lt.mpr c8)]; exact hhi) (by omega)
            · skip
              refine ev_iload dX6_best_78 rfl ?_
              refine ev_istore (lv' := [(0, .ref 32), (1, .int (nI j1)), (2, .int 1), (3, .int fd), (4, .int (s_jk A j1 (nI q))), (5, .int (nI q)), (6, .int (s_jk A j1 (nI q)))]) dX6_best_80 (by decide) rfl ?_
              refine ev_iload dX6_best_82 rfl ?_
              refine ev_istore_n (lv' := [(0, .ref 32), (1, .int (nI j1)), (2, .int 1), (3, .int (nI q)), (4, .int (s_jk A j1 (nI q))), (5, .int (nI q)), (6, .int (s_jk A j1 (nI q)))]) dX6_best_84 rfl (by decide) rfl ?_
              refine ev_iinc (lv' := [(0, .ref 32), (1, .int (nI j1)), (2, .int 1), (3, .int (nI q)), (4, .int (s_jk A j1 (nI q))), (5, .int (nI (q + 1))), (6, .int (s_jk A j1 (nI q)))]) (v := nI (q + 1)) dX6_best_85 rfl (nI_1 _) (by decide) rfl ?_
              refine ev_goto (tgt := 45) dX6_best_88 (by decide) ?_
              refine ev_keep (lv' := [(0, .ref 32), (1, .int (nI j1)), (2, .int 1), (3, .int (nI q)), (4, .int (s_jk A j1 (nI q))), (5, .int (nI (q + 1)))]) [0, 1, 2, 3, 4, 5] rfl ?_
              exact ih (q + 1) (nI q) (s_jk A j1 (nI q)) (by omega) (by rw [s_bjY (by rw [← hhi]; exact Int32.not_le.mp c8)]; rfl) (by rw [s_bjY (by rw [← hhi]; exact Int32.not_le.mp c8)]) (by omega)
      exact lp _ 0 (-1) (s_jk A j1 (-1)) (Nat.zero_le _) rfl rfl (Nat.lt_succ_self _)
    · skip
      refine ev_if_ne (tgt := 20) dX6_best_14 (by decide) (fun c => absurd (by decide) c) (fun _ => ?_)
      refine ev_bipush (v := (-7)) dX6_best_17 (by decide) ?_
      refine ev_reti dX6_best_19 rfl (Nat.zero_le _) (Nat.zero_le _) ?_
      refine ⟨?_, hX, fr_C.rf⟩
      simp [sp_best, am_inN h1 (by omega), sN_n (show j1 < 2 ^ 31 by omega), (show ¬ w = 0 from fun z => h2 (Or.inl z)), (show ¬ w = 1 from fun z => h2 (Or.inr z))]
  · skip
    refine ev_if_ne (tgt := 10) dX6_best_4 (by decide) (fun c => absurd (by decide) c) (fun _ => ?_)
    refine ev_bipush (v := (-5)) dX6_best_7 (by decide) ?_
    refine ev_reti dX6_best_9 rfl (Nat.zero_le _) (Nat.zero_le _) ?_
    refine ⟨?_, hX, fr_C.rf⟩
    simp [sp_best, am_inF (by omega) h1]

set_option maxHeartbeats 400000 in
set_option maxRecDepth 100000 in
theorem c_X6_join (G : am_G) (D : Nat) (A : am_S) (σ : am_M) (hA : wf_A A) (hX : iv_X A σ) (t w : Int32) : am_Mt G (D + 6) mX6_join [.ref 32, .int t, .int w] σ 0 0 (am_qC A (.int (sp_join A t w)) σ) := by
  have b7 := wf_np7 hA
  have b8 := wf_nq8 hA
  have b6 := wf_nt6 hA
  have b61 := wf_nt1 hA
  have b160 := wf_tp160 hA
  have brl := wf_rlt hA
  refine am_of moX6_join (Nat.le_of_ble_eq_true rfl) ?_
  show am_Ev G mX6_join (am_R (D + 6) 0 0) 0 0 (am_qC A (.int (sp_join A t w)) σ) 0 [(0, .ref 32), (1, .int t), (2, .int w)] [] σ 0 0
  refine ev_iload_n dX6_join_0 rfl rfl ?_
  refine ev_callS (as := [.int t]) (st := []) dX6_join_1 mfX6_isTable lk_X6_161 (c_X6_isTable G (D + 5) σ t) rfl rfl (Nat.le_of_ble_eq_true rfl) (am_hR (by omega) (by decide)) ⟨Nat.le_refl _, Nat.le_refl _⟩ ?_
  rintro _ _ (⟨⟨j1, h1, rfl⟩, rfl, rfl⟩ | ⟨h1, rfl, rfl⟩)
  · skip
    refine ev_if_ne (tgt := 10) dX6_join_4 (by decide) (fun _ => ?_) (fun c => absurd c (by decide))
    refine ev_iload_n dX6_join_10 rfl rfl ?_
    refine ev_callS (as := [.int w]) (st := []) dX6_join_11 mfX6_isZeroOrOne lk_X6_158 (c_X6_isZeroOrOne G (D + 5) σ w) rfl rfl (Nat.le_of_ble_eq_true rfl) (am_hR (by omega) (by decide)) ⟨Nat.le_refl _, Nat.le_refl _⟩ ?_
    rintro _ _ (⟨rfl | rfl, rfl, rfl⟩ | ⟨h2, rfl, rfl⟩)
    · skip
      refine ev_if_ne (tgt := 20) dX6_join_14 (by decide) (fun _ => ?_) (fun c => absurd c (by decide))
      refine ev_aload_n dX6_join_20 rfl rfl ?_
      refine ev_callV (as := []) (st := []) dX6_join_21 mfX6_reckon lk_X6_164 (ly_k hX.ly 32 rfl) (by decide) rfl (c_X6_reckon G (D + 1) A σ hA hX ) rfl rfl (Nat.le_of_ble_eq_true rfl) (am_hR (by omega) (by decide)) ⟨Nat.le_refl _, Nat.le_refl _⟩ ?_
      rintro _ σ3 ⟨rfl, hX3, hF3, hc3, hr3⟩
      refine ev_aload_n dX6_join_24 rfl rfl ?_
      refine ev_iload_n dX6_join_25 rfl rfl ?_
      refine ev_callV (as := [.int (nI j1)]) (st := []) dX6_join_26 mfX6_seatedAt lk_X6_167 (ly_k hX3.ly 32 rfl) (by decide) rfl (c_X6_seatedAt G (D + 4) A σ3 hA hX3 j1) rfl rfl (Nat.le_of_ble_eq_true rfl) (am_hR (by omega) (by decide)) ⟨Nat.le_refl _, Nat.le_refl _⟩ ?_
      rintro _ _ ⟨rfl, rfl⟩
      refine ev_istore_n (lv' := [(0, .ref 32), (1, .int (nI j1)), (2, .int 0), (3, .int (nI (mk_m (s_se A j1) (s_np A))))]) dX6_join_29 rfl (by decide) rfl ?_
      refine ev_iconst (v := (-1)) dX6_join_30 (by decide) ?_
      refine ev_istore (lv' := [(0, .ref 32), (1, .int (nI j1)), (2, .int 0), (3, .int (nI (mk_m (s_se A j1) (s_np A)))), (4, .int (-1))]) dX6_join_31 (by decide) rfl ?_
      refine ev_aload_n dX6_join_33 rfl rfl ?_
      refine ev_iload_n dX6_join_34 rfl rfl ?_
      refine ev_callV (as := [.int (nI j1)]) (st := []) dX6_join_35 mfX6_scoreNow lk_X6_177 (ly_k hX3.ly 32 rfl) (by decide) rfl (c_X6_scoreNow G (D + 4) A σ3 hA hX3 j1 (by omega) hc3 hr3) rfl rfl (Nat.le_of_ble_eq_true rfl) (am_hR (by omega) (by decide)) ⟨Nat.le_refl _, Nat.le_refl _⟩ ?_
      rintro _ _ ⟨rfl, rfl⟩
      refine ev_istore (lv' := [(0, .ref 32), (1, .int (nI j1)), (2, .int 0), (3, .int (nI (mk_m (s_se A j1) (s_np A)))), (4, .int (-1)), (5, .int (s_now A j1))]) dX6_join_38 (by decide) rfl ?_
      refine ev_iconst (v := 0) dX6_join_40 (by decide) ?_
      refine ev_istore (lv' := [(0, .ref 32), (1, .int (nI j1)), (2, .int 0), (3, .int (nI (mk_m (s_se A j1) (s_np A)))), (4, .int (-1)), (5, .int (s_now A j1)), (6, .int 0)]) dX6_join_41 (by decide) rfl ?_
      have lp : ∀ (f : Nat) (p : Nat) (fd : Int32) (hi : Int32), (p ≤ s_np A) → (fd = s_bi (s_jo A j1 p).1) → (hi = (s_jo A j1 p).2) → s_np A - p < f → am_Ev G mX6_join (am_R (D + 6) 0 0) 0 0 (am_qC A (.int (sp_join A (nI j1) 0)) σ) 43 [(0, .ref 32), (1, .int (nI j1)), (2, .int 0), (3, .int (nI (mk_m (s_se A j1) (s_np A)))), (4, .int fd), (5, .int hi), (6, .int (nI p))] [] σ3 0 0 := by
        intro f
        induction f with
        | zero => intro p fd hi hp hfd hhi hf; exact absurd hf (Nat.not_lt_zero _)
        | succ f ih =>
          intro p fd hi hp hfd hhi hf
          refine ev_iload dX6_join_43 rfl ?_
          refine ev_aload_n dX6_join_45 rfl rfl ?_
          refine ev_getI (v := nI (s_np A)) dX6_join_46 fl_X6_85 (ly_k hX3.ly 32 rfl) (hX3.f12.trans (wf_np hA)) ?_
          refine ev_icmp_ge (tgt := 86) dX6_join_49 (by decide) (fun c4 => ?_) (fun c4 => ?_)
          · skip
            have c4n : (s_np A) ≤ p := (nI_leI (a := (s_np A)) (b := p) (by omega) (by omega)).mp c4
            refine ev_iload_n dX6_join_86 rfl rfl ?_
            refine ev_if_ne (tgt := 95) dX6_join_87 (by decide) (fun c => absurd (by decide) c) (fun _ => ?_)
            refine ev_iload dX6_join_90 rfl ?_
            refine ev_goto (tgt := 97) dX6_join_92 (by decide) ?_
            refine ev_reti dX6_join_97 rfl (Nat.zero_le _) (Nat.zero_le _) ?_
            have e : p = s_np A := by omega
            subst e
            refine ⟨?_, hX3, (fr_C.tr fr_C.rf hF3)⟩
            simp [sp_join, am_inN h1 (by omega), sN_n (show j1 < 2 ^ 31 by omega), ← hfd, ← hhi]
          · skip
            have c4n : ¬ (s_np A) ≤ p := fun zz => c4 ((nI_leI (a := (s_np A)) (b := p) (by omega) (by omega)).mpr zz)
            cases hs : s_se A j1 p with
            | true =>
              refine ev_aload_n dX6_join_52 rfl rfl ?_
              refine ev_iload_n dX6_join_53 rfl rfl ?_
              refine ev_iload_n dX6_join_54 rfl rfl ?_
              refine ev_iconst (v := 1) dX6_join_55 (by decide) ?_
              refine ev_iload dX6_join_56 rfl ?_
              refine ev_ishl (v := 1 <<< ((nI p) &&& 31)) dX6_join_58 rfl ?_
              refine ev_ior (v := nI (mk_m (s_se A j1) (s_np A) ||| 2 ^ p)) dX6_join_59 (mk_o1 (by omega)) ?_
              refine ev_callV (as := [.int (nI j1), .int (nI (mk_m (s_se A j1) (s_np A) ||| 2 ^ p))]) (st := []) dX6_join_60 mfX6_scoreIf lk_X6_193 (ly_k hX3.ly 32 rfl) (by decide) rfl (by have hh := c_X6_scoreIf G (D + 3) A σ3 hA hX3 j1 (by omega) (mk_m (s_se A j1) (s_np A) ||| 2 ^ p) (Nat.or_lt_two_pow (mk_lt _ _) (Nat.pow_lt_pow_right (by decide) (by omega))) hc3; rw [s_ifS hs] at hh; exact hh) rfl rfl (Nat.le_of_ble_eq_true rfl) (am_hR (by omega) (by decide)) ⟨Nat.le_refl _, Nat.le_refl _⟩ ?_
              rintro _ _ ⟨rfl, rfl⟩
              refine ev_istore (lv' := [(0, .ref 32), (1, .int (nI j1)), (2, .int 0), (3, .int (nI (mk_m (s_se A j1) (s_np A)))), (4, .int fd), (5, .int hi), (6, .int (nI p)), (7, .int (s_now A j1))]) dX6_join_63 (by decide) rfl ?_
              refine ev_iload dX6_join_65 rfl ?_
              refine ev_iload dX6_join_67 rfl ?_
              refine ev_icmp_le (tgt := 80) dX6_join_69 (by decide) (fun _ => ?_) (fun c => absurd (by rw [hhi]; exact s_jxG p) c)
              refine ev_iinc (lv' := [(0, .ref 32), (1, .int (nI j1)), (2, .int 0), (3, .int (nI (mk_m (s_se A j1) (s_np A)))), (4, .int fd), (5, .int hi), (6, .int (nI (p + 1))), (7, .int (s_now A j1))]) (v := nI (p + 1)) dX6_join_80 rfl (nI_1 _) (by decide) rfl ?_
              refine ev_goto (tgt := 43) dX6_join_83 (by decide) ?_
              refine ev_keep (lv' := [(0, .ref 32), (1, .int (nI j1)), (2, .int 0), (3, .int (nI (mk_m (s_se A j1) (s_np A)))), (4, .int fd), (5, .int hi), (6, .int (nI (p + 1)))]) [0, 1, 2, 3, 4, 5, 6] rfl ?_
              exact ih (p + 1) fd hi (by omega) (by rw [s_jxS hs]; exact hfd) (by rw [s_jxS hs]; exact hhi) (by omega)
            | false =>
              refine ev_aload_n dX6_join_52 rfl rfl ?_
              refine ev_iload_n dX6_join_53 rfl rfl ?_
              refine ev_iload_n dX6_join_54 rfl rfl ?_
              refine ev_iconst (v := 1) dX6_join_55 (by decide) ?_
              refine ev_iload dX6_join_56 rfl ?_
              refine ev_ishl (v := 1 <<< ((nI p) &&& 31)) dX6_join_58 rfl ?_
              refine ev_ior (v := nI (mk_m (s_se A j1) (s_np A) ||| 2 ^ p)) dX6_join_59 (mk_o1 (by omega)) ?_
              refine ev_callV (as := [.int (nI j1), .int (nI (mk_m (s_se A j1) (s_np A) ||| 2 ^ p))]) (st := []) dX6_join_60 mfX6_scoreIf lk_X6_193 (ly_k hX3.ly 32 rfl) (by decide) rfl (by have hh := c_X6_scoreIf G (D + 3) A σ3 hA hX3 j1 (by omega) (mk_m (s_se A j1) (s_np A) ||| 2 ^ p) (Nat.or_lt_two_pow (mk_lt _ _) (Nat.pow_lt_pow_right (by decide) (by omega))) hc3; rw [s_ifJ (by omega)] at hh; exact hh) rfl rfl (Nat.le_of_ble_eq_true rfl) (am_hR (by omega) (by decide)) ⟨Nat.le_refl _, Nat.le_refl _⟩ ?_
              rintro _ _ ⟨rfl, rfl⟩
              refine ev_istore (lv' := [(0, .ref 32), (1, .int (nI j1)), (2, .int 0), (3, .int (nI (mk_m (s_se A j1) (s_np A)))), (4, .int fd), (5, .int hi), (6, .int (nI p)), (7, .int (s_wi A j1 p (nI j1)))]) dX6_join_63 (by decide) rfl ?_
              refine ev_iload dX6_join_65 rfl ?_
              refine ev_iload dX6_join_67 rfl ?_
              refine ev_icmp_le (tgt := 80) dX6_join_69 (by decide) (fun c5 => ?_) (fun c5 => ?_)
              · skip
                refine ev_iinc (lv' := [(0, .ref 32), (1, .int (nI j1)), (2, .int 0), (3, .int (nI (mk_m (s_se A j1) (s_np A)))), (4, .int fd), (5, .int hi), (6, .int (nI (p + 1))), (7, .int (s_wi A j1 p (nI j1)))]) (v := nI (p + 1)) dX6_join_80 rfl (nI_1 _) (by decide) rfl ?_
                refine ev_goto (tgt := 43) dX6_join_83 (by decide) ?_
                refine ev_keep (lv' := [(0, .ref 32), (1, .int (nI j1)), (2, .int 0), (3, .int (nI (mk_m (s_se A j1) (s_np A)))), (4, .int fd), (5, .int hi), (6, .int (nI (p + 1)))]) [0, 1, 2, 3, 4, 5, 6] rfl ?_
                exact ih (p + 1) fd hi (by omega) (by rw [s_jxN hs (by rw [← hhi]; exact Int32.not_lt.mpr c5)]; exact hfd) (by rw [s_jxN hs (by rw [← hhi]; exact Int32.not_lt.mpr c5)]; exact hhi) (by omega)
              · skip
                refine ev_iload dX6_join_72 rfl ?_
                refine ev_istore (lv' := [(0, .ref 32), (1, .int (nI j1)), (2, .int 0), (3, .int (nI (mk_m (s_se A j1) (s_np A)))), (4, .int fd), (5, .int (s_wi A j1 p (nI j1))), (6, .int (nI p)), (7, .int (s_wi A j1 p (nI j1)))]) dX6_join_74 (by decide) rfl ?_
                refine ev_iload dX6_join_76 rfl ?_
                refine ev_istore (lv' := [(0, .ref 32), (1, .int (nI j1)), (2, .int 0), (3, .int (nI (mk_m (s_se A j1) (s_np A)))), (4, .int (nI p)), (5, .int (s_wi A j1 p (nI j1))), (6, .int (nI p)), (7, .int (s_wi A j1 p (nI j1)))]) dX6_join_78 (by decide) rfl ?_
                refine ev_iinc (lv' := [(0, .ref 32), (1, .int (nI j1)), (2, .int 0), (3, .int (nI (mk_m (s_se A j1) (s_np A)))), (4, .int (nI p)), (5, .int (s_wi A j1 p (nI j1))), (6, .int (nI (p + 1))), (7, .int (s_wi A j1 p (nI j1)))]) (v := nI (p + 1)) dX6_join_80 rfl (nI_1 _) (by decide) rfl ?_
                refine ev_goto (tgt := 43) dX6_join_83 (by decide) ?_
                refine ev_keep (lv' := [(0, .ref 32), (1, .int (nI j1)), (2, .int 0), (3, .int (nI (mk_m (s_se A j1) (s_np A)))), (4, .int (nI p)), (5, .int (s_wi A j1 p (nI j1))), (6, .int (nI (p + 1)))]) [0, 1, 2, 3, 4, 5, 6] rfl ?_
                exact ih (p + 1) (nI p) (s_wi A j1 p (nI j1)) (by omega) (by rw [s_jxY hs (by rw [← hhi]; exact Int32.not_le.mp c5)]; rfl) (by rw [s_jxY hs (by rw [← hhi]; exact Int32.not_le.mp c5)]) (by omega)
      exact lp _ 0 (-1) (s_now A j1) (Nat.zero_le _) rfl rfl (Nat.lt_succ_self _)
    · skip
      refine ev_if_ne (tgt := 20) dX6_join_14 (by decide) (fun _ => ?_) (fun c => absurd c (by decide))
      refine ev_aload_n dX6_join_20 rfl rfl ?_
      refine ev_callV (as := []) (st := []) dX6_join_21 mfX6_reckon lk_X6_164 (ly_k hX.ly 32 rfl) (by decide) rfl (c_X6_reckon G (D + 1) A σ hA hX ) rfl rfl (Nat.le_of_ble_eq_true rfl) (am_hR (by omega) (by decide)) ⟨Nat.le_refl _, Nat.le_refl _⟩ ?_
      rintro _ σ6 ⟨rfl, hX6, hF6, hc6, hr6⟩
      refine ev_aload_n dX6_join_24 rfl rfl ?_
      refine ev_iload_n dX6_join_25 rfl rfl ?_
      refine ev_callV (as := [.int (nI j1)]) (st := []) dX6_join_26 mfX6_seatedAt lk_X6_167 (ly_k hX6.ly 32 rfl) (by decide) rfl (c_X6_seatedAt G (D + 4) A σ6 hA hX6 j1) rfl rfl (Nat.le_of_ble_eq_true rfl) (am_hR (by omega) (by decide)) ⟨Nat.le_refl _, Nat.le_refl _⟩ ?_
      rintro _ _ ⟨rfl, rfl⟩
      refine ev_istore_n (lv' := [(0, .ref 32), (1, .int (nI j1)), (2, .int 1), (3, .int (nI (mk_m (s_se A j1) (s_np A))))]) dX6_join_29 rfl (by decide) rfl ?_
      refine ev_iconst (v := (-1)) dX6_join_30 (by decide) ?_
      refine ev_istore (lv' := [(0, .ref 32), (1, .int (nI j1)), (2, .int 1), (3, .int (nI (mk_m (s_se A j1) (s_np A)))), (4, .int (-1))]) dX6_join_31 (by decide) rfl ?_
      refine ev_aload_n dX6_join_33 rfl rfl ?_
      refine ev_iload_n dX6_join_34 rfl rfl ?_
      refine ev_callV (as := [.int (nI j1)]) (st := []) dX6_join_35 mfX6_scoreNow lk_X6_177 (ly_k hX6.ly 32 rfl) (by decide) rfl (c_X6_scoreNow G (D + 4) A σ6 hA hX6 j1 (by omega) hc6 hr6) rfl rfl (Nat.le_of_ble_eq_true rfl) (am_hR (by omega) (by decide)) ⟨Nat.le_refl _, Nat.le_refl _⟩ ?_
      rintro _ _ ⟨rfl, rfl⟩
      refine ev_istore (lv' := [(0, .ref 32), (1, .int (nI j1)), (2, .int 1), (3, .int (nI (mk_m (s_se A j1) (s_np A)))), (4, .int (-1)), (5, .int (s_now A j1))]) dX6_join_38 (by decide) rfl ?_
      refine ev_iconst (v := 0) dX6_join_40 (by decide) ?_
      refine ev_istore (lv' := [(0, .ref 32), (1, .int (nI j1)), (2, .int 1), (3, .int (nI (mk_m (s_se A j1) (s_np A)))), (4, .int (-1)), (5, .int (s_now A j1)), (6, .int 0)]) dX6_join_41 (by decide) rfl ?_
      have lp : ∀ (f : Nat) (p : Nat) (fd : Int32) (hi : Int32), (p ≤ s_np A) → (fd = s_bi (s_jo A j1 p).1) → (hi = (s_jo A j1 p).2) → s_np A - p < f → am_Ev G mX6_join (am_R (D + 6) 0 0) 0 0 (am_qC A (.int (sp_join A (nI j1) 1)) σ) 43 [(0, .ref 32), (1, .int (nI j1)), (2, .int 1), (3, .int (nI (mk_m (s_se A j1) (s_np A)))), (4, .int fd), (5, .int hi), (6, .int (nI p))] [] σ6 0 0 := by
        intro f
        induction f with
        | zero => intro p fd hi hp hfd hhi hf; exact absurd hf (Nat.not_lt_zero _)
        | succ f ih =>
          intro p fd hi hp hfd hhi hf
          refine ev_iload dX6_join_43 rfl ?_
          refine ev_aload_n dX6_join_45 rfl rfl ?_
          refine ev_getI (v := nI (s_np A)) dX6_join_46 fl_X6_85 (ly_k hX6.ly 32 rfl) (hX6.f12.trans (wf_np hA)) ?_
          refine ev_icmp_ge (tgt := 86) dX6_join_49 (by decide) (fun c7 => ?_) (fun c7 => ?_)
          · skip
            have c7n : (s_np A) ≤ p := (nI_leI (a := (s_np A)) (b := p) (by omega) (by omega)).mp c7
            refine ev_iload_n dX6_join_86 rfl rfl ?_
            refine ev_if_ne (tgt := 95) dX6_join_87 (by decide) (fun _ => ?_) (fun c => absurd c (by decide))
            refine ev_iload dX6_join_95 rfl ?_
            refine ev_reti dX6_join_97 rfl (Nat.zero_le _) (Nat.zero_le _) ?_
            have e : p = s_np A := by omega
            subst e
            refine ⟨?_, hX6, (fr_C.tr fr_C.rf hF6)⟩
            simp [sp_join, am_inN h1 (by omega), sN_n (show j1 < 2 ^ 31 by omega), ← hfd, ← hhi]
          · skip
            have c7n : ¬ (s_np A) ≤ p := fun zz => c7 ((nI_leI (a := (s_np A)) (b := p) (by omega) (by omega)).mpr zz)
            cases hs : s_se A j1 p with
            | true =>
              refine ev_aload_n dX6_join_52 rfl rfl ?_
              refine ev_iload_n dX6_join_53 rfl rfl ?_
              refine ev_iload_n dX6_join_54 rfl rfl ?_
              refine ev_iconst (v := 1) dX6_join_55 (by decide) ?_
              refine ev_iload dX6_join_56 rfl ?_
              refine ev_ishl (v := 1 <<< ((nI p) &&& 31)) dX6_join_58 rfl ?_
              refine ev_ior (v := nI (mk_m (s_se A j1) (s_np A) ||| 2 ^ p)) dX6_join_59 (mk_o1 (by omega)) ?_
              refine ev_callV (as := [.int (nI j1), .int (nI (mk_m (s_se A j1) (s_np A) ||| 2 ^ p))]) (st := []) dX6_join_60 mfX6_scoreIf lk_X6_193 (ly_k hX6.ly 32 rfl) (by decide) rfl (by have hh := c_X6_scoreIf G (D + 3) A σ6 hA hX6 j1 (by omega) (mk_m (s_se A j1) (s_np A) ||| 2 ^ p) (Nat.or_lt_two_pow (mk_lt _ _) (Nat.pow_lt_pow_right (by decide) (by omega))) hc6; rw [s_ifS hs] at hh; exact hh) rfl rfl (Nat.le_of_ble_eq_true rfl) (am_hR (by omega) (by decide)) ⟨Nat.le_refl _, Nat.le_refl _⟩ ?_
              rintro _ _ ⟨rfl, rfl⟩
              refine ev_istore (lv' := [(0, .ref 32), (1, .int (nI j1)), (2, .int 1), (3, .int (nI (mk_m (s_se A j1) (s_np A)))), (4, .int fd), (5, .int hi), (6, .int (nI p)), (7, .int (s_now A j1))]) dX6_join_63 (by decide) rfl ?_
              refine ev_iload dX6_join_65 rfl ?_
              refine ev_iload dX6_join_67 rfl ?_
              refine ev_icmp_le (tgt := 80) dX6_join_69 (by decide) (fun _ => ?_) (fun c => absurd (by rw [hhi]; exact s_jxG p) c)
              refine ev_iinc (lv' := [(0, .ref 32), (1, .int (nI j1)), (2, .int 1), (3, .int (nI (mk_m (s_se A j1) (s_np A)))), (4, .int fd), (5, .int hi), (6, .int (nI (p + 1))), (7, .int (s_now A j1))]) (v := nI (p + 1)) dX6_join_80 rfl (nI_1 _) (by decide) rfl ?_
              refine ev_goto (tgt := 43) dX6_join_83 (by decide) ?_
              refine ev_keep (lv' := [(0, .ref 32), (1, .int (nI j1)), (2, .int 1), (3, .int (nI (mk_m (s_se A j1) (s_np A)))), (4, .int fd), (5, .int hi), (6, .int (nI (p + 1)))]) [0, 1, 2, 3, 4, 5, 6] rfl ?_
              exact ih (p + 1) fd hi (by omega) (by rw [s_jxS hs]; exact hfd) (by rw [s_jxS hs]; exact hhi) (by omega)
            | false =>
              refine ev_aload_n dX6_join_52 rfl rfl ?_
              refine ev_iload_n dX6_join_53 rfl rfl ?_
              refine ev_iload_n dX6_join_54 rfl rfl ?_
              refine ev_iconst (v := 1) dX6_join_55 (by decide) ?_
              refine ev_iload dX6_join_56 rfl ?_
              refine ev_ishl (v := 1 <<< ((nI p) &&& 31)) dX6_join_58 rfl ?_
              refine ev_ior (v := nI (mk_m (s_se A j1) (s_np A) ||| 2 ^ p)) dX6_join_59 (mk_o1 (by omega)) ?_
              refine ev_callV (as := [.int (nI j1), .int (nI (mk_m (s_se A j1) (s_np A) ||| 2 ^ p))]) (st := []) dX6_join_60 mfX6_scoreIf lk_X6_193 (ly_k hX6.ly 32 rfl) (by decide) rfl (by have hh := c_X6_scoreIf G (D + 3) A σ6 hA hX6 j1 (by omega) (mk_m (s_se A j1) (s_np A) ||| 2 ^ p) (Nat.or_lt_two_pow (mk_lt _ _) (Nat.pow_lt_pow_right (by decide) (by omega))) hc6; rw [s_ifJ (by omega)] at hh; exact hh) rfl rfl (Nat.le_of_ble_eq_true rfl) (am_hR (by omega) (by decide)) ⟨Nat.le_refl _, Nat.le_refl _⟩ ?_
              rintro _ _ ⟨rfl, rfl⟩
              refine ev_istore (lv' := [(0, .ref 32), (1, .int (nI j1)), (2, .int 1), (3, .int (nI (mk_m (s_se A j1) (s_np A)))), (4, .int fd), (5, .int hi), (6, .int (nI p)), (7, .int (s_wi A j1 p (nI j1)))]) dX6_join_63 (by decide) rfl ?_
              refine ev_iload dX6_join_65 rfl ?_
              refine ev_iload dX6_join_67 rfl ?_
              refine ev_icmp_le (tgt := 80) dX6_join_69 (by decide) (fun c8 => ?_) (fun c8 => ?_)
              · skip
                refine ev_iinc (lv' := [(0, .ref 32), (1, .int (nI j1)), (2, .int 1), (3, .int (nI (mk_m (s_se A j1) (s_np A)))), (4, .int fd), (5, .int hi), (6, .int (nI (p + 1))), (7, .int (s_wi A j1 p (nI j1)))]) (v := nI (p + 1)) dX6_join_80 rfl (nI_1 _) (by decide) rfl ?_
                refine ev_goto (tgt := 43) dX6_join_83 (by decide) ?_
                refine ev_keep (lv' := [(0, .ref 32), (1, .int (nI j1)), (2, .int 1), (3, .int (nI (mk_m (s_se A j1) (s_np A)))), (4, .int fd), (5, .int hi), (6, .int (nI (p + 1)))]) [0, 1, 2, 3, 4, 5, 6] rfl ?_
                exact ih (p + 1) fd hi (by omega) (by rw [s_jxN hs (by rw [← hhi]; exact Int32.not_lt.mpr c8)]; exact hfd) (by rw [s_jxN hs (by rw [← hhi]; exact Int32.not_lt.mpr c8)]; exact hhi) (by omega)
              · skip
                refine ev_iload dX6_join_72 rfl ?_
                refine ev_istore (lv' := [(0, .ref 32), (1, .int (nI j1)), (2, .int 1), (3, .int (nI (mk_m (s_se A j1) (s_np A)))), (4, .int fd), (5, .int (s_wi A j1 p (nI j1))), (6, .int (nI p)), (7, .int (s_wi A j1 p (nI j1)))]) dX6_join_74 (by decide) rfl ?_
                refine ev_iload dX6_join_76 rfl ?_
                refine ev_istore (lv' := [(0, .ref 32), (1, .int (nI j1)), (2, .int 1), (3, .int (nI (mk_m (s_se A j1) (s_np A)))), (4, .int (nI p)), (5, .int (s_wi A j1 p (nI j1))), (6, .int (nI p)), (7, .int (s_wi A j1 p (nI j1)))]) dX6_join_78 (by decide) rfl ?_
                refine ev_iinc (lv' := [(0, .ref 32), (1, .int (nI j1)), (2, .int 1), (3, .int (nI (mk_m (s_se A j1) (s_np A)))), (4, .int (nI p)), (5, .int (s_wi A j1 p (nI j1))), (6, .int (nI (p + 1))), (7, .int (s_wi A j1 p (nI j1)))]) (v := nI (p + 1)) dX6_join_80 rfl (nI_1 _) (by decide) rfl ?_
                refine ev_goto (tgt := 43) dX6_join_83 (by decide) ?_
                refine ev_keep (lv' := [(0, .ref 32), (1, .int (nI j1)), (2, .int 1), (3, .int (nI (mk_m (s_se A j1) (s_np A)))), (4, .int (nI p)), (5, .int (s_wi A j1 p (nI j1))), (6, .int (nI (p + 1)))]) [0, 1, 2, 3, 4, 5, 6] rfl ?_
                exact ih (p + 1) (nI p) (s_wi A j1 p (nI j1)) (by omega) (by rw [s_jxY hs (by rw [← hhi]; exact Int32.not_le.mp c8)]; rfl) (by rw [s_jxY hs (by rw [← hhi]; exact Int32.not_le.mp c8)]) (by omega)
      exact lp _ 0 (-1) (s_now A j1) (Nat.zero_le _) rfl rfl (Nat.lt_succ_self _)
    · skip
      refine ev_if_ne (tgt := 20) dX6_join_14 (by decide) (fun c => absurd (by decide) c) (fun _ => ?_)
      refine ev_bipush (v := (-7)) dX6_join_17 (by decide) ?_
      refine ev_reti dX6_join_19 rfl (Nat.zero_le _) (Nat.zero_le _) ?_
      refine ⟨?_, hX, fr_C.rf⟩
      simp [sp_join, am_inN h1 (by omega), sN_n (show j1 < 2 ^ 31 by omega), (show ¬ w = 0 from fun z => h2 (Or.inl z)), (show ¬ w = 1 from fun z => h2 (Or.inr z))]
  · skip
    refine ev_if_ne (tgt := 10) dX6_join_4 (by decide) (fun c => absurd (by decide) c) (fun _ => ?_)
    refine ev_bipush (v := (-5)) dX6_join_7 (by decide) ?_
    refine ev_reti dX6_join_9 rfl (Nat.zero_le _) (Nat.zero_le _) ?_
    refine ⟨?_, hX, fr_C.rf⟩
    simp [sp_join, am_inF (by omega) h1]

