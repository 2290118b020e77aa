/-! the reference: next -/
theorem lx_blT {x : Int32} (h : x = 32 ∨ x = 10) : lx_bl x = true := by
  rcases h with rfl | rfl <;> decide
theorem lx_blF {x : Int32} (h1 : ¬ x = 32) (h2 : ¬ x = 10) : lx_bl x = false := by
  unfold lx_bl
  rw [decide_eq_false h1, decide_eq_false h2]
  rfl
theorem lx_leT {x : Int32} (h : 97 ≤ x ∧ x ≤ 122) : lx_le x = true := by
  unfold lx_le
  rw [decide_eq_true h.1, decide_eq_true h.2]
  rfl
theorem lx_leF {x : Int32} (h : ¬ (97 ≤ x ∧ x ≤ 122)) : lx_le x = false := by
  cases e : lx_le x with
  | false => rfl
  | true =>
    unfold lx_le at e
    rw [Bool.and_eq_true, decide_eq_true_eq, decide_eq_true_eq] at e
    exact absurd e h
theorem lx_diT {x : Int32} (h : 48 ≤ x ∧ x ≤ 57) : lx_di x = true := by
  unfold lx_di
  rw [decide_eq_true h.1, decide_eq_true h.2]
  rfl
theorem lx_diF {x : Int32} (h : ¬ (48 ≤ x ∧ x ≤ 57)) : lx_di x = false := by
  cases e : lx_di x with
  | false => rfl
  | true =>
    unfold lx_di at e
    rw [Bool.and_eq_true, decide_eq_true_eq, decide_eq_true_eq] at e
    exact absurd e h
theorem lx_diN {x : Int32} (h : lx_di x = true) : ∃ d, d ≤ 9 ∧ x = nI (48 + d) := by
  unfold lx_di at h
  rw [Bool.and_eq_true, decide_eq_true_eq, decide_eq_true_eq] at h
  obtain ⟨j, hj, rfl⟩ := (am_rgl (n := 58) (c := 57) (by decide)).mp ⟨Int32.le_trans (by decide) h.1, h.2⟩
  have : 48 ≤ j := (nI_leI (a := 48) (b := j) (by decide) (by omega)).mp h.1
  exact ⟨j - 48, by omega, by rw [show 48 + (j - 48) = j by omega]⟩
theorem lx_vS {b : Nat → Int32} {p i : Nat} (h : lx_di (b (p + i)) = true) : 10 * nI (lx_v b p i) + b (p + i) - 48 = nI (lx_v b p (i + 1)) := by
  obtain ⟨d, hd, e⟩ := lx_diN h
  show _ = nI (10 * lx_v b p i + (sN (b (p + i)) - 48))
  rw [e, sN_n (by omega), show (10 : Int32) = nI 10 from rfl, show (48 : Int32) = nI 48 from rfl, pk_mul, nI_add, pk_sub (by omega)]
  congr 1
  omega
theorem lx_vB {b : Nat → Int32} {p : Nat} : ∀ {k : Nat}, (∀ i, i < k → lx_di (b (p + i)) = true) → lx_v b p k < 10 ^ k := by
  intro k
  induction k with
  | zero => intro _; exact Nat.one_pos
  | succ k ih =>
    intro h
    obtain ⟨d, hd, e⟩ := lx_diN (h k (Nat.lt_succ_self k))
    have h1 := ih (fun i hi => h i (Nat.lt_succ_of_lt hi))
    show 10 * lx_v b p k + (sN (b (p + k)) - 48) < 10 ^ (k + 1)
    rw [e, sN_n (by omega), Nat.pow_succ]
    omega
theorem mt_num {v : Nat} (h : v < 10000) : mt_t (nI v) = 1 ∧ mt_v (nI v) = nI v := by
  have h0 : (0 : Int32) ≤ nI v := (nI_leI (a := 0) (b := v) (by decide) (by omega)).mpr (Nat.zero_le v)
  exact ⟨if_pos h0, if_pos h0⟩
theorem mt_wr : mt_t (-23) = -1 ∧ ¬ mt_n (-23) := ⟨by decide, by unfold mt_n; decide⟩
theorem mt_ov : mt_t (-22) = 0 ∧ ¬ mt_n (-22) := ⟨by decide, by unfold mt_n; decide⟩
theorem lx_atO {b : Nat → Int32} {n p : Nat} (h : n ≤ p) : lx_at b n p = (-22, p, p) := if_pos h
theorem lx_atL {b : Nat → Int32} {n p q : Nat} (h : ¬ n ≤ p) (h1 : lx_le (b p) = true) (e : lx_run lx_le b (n - p) p = q) : lx_at b n p = (lx_tw (lx_wi b p q), p, q) := by
  subst e
  exact (if_neg h).trans (if_pos h1)
theorem lx_atD {b : Nat → Int32} {n p q : Nat} (h : ¬ n ≤ p) (h1 : lx_le (b p) = false) (h2 : lx_di (b p) = true) (e : lx_run lx_di b (n - p) p = q) : lx_at b n p = (if q - p ≤ 4 then nI (lx_v b p (q - p)) else -23, p, q) := by
  subst e
  exact (if_neg h).trans ((if_neg (by rw [h1]; decide)).trans (if_pos h2))
theorem lx_atS {b : Nat → Int32} {n p : Nat} (h : ¬ n ≤ p) (h1 : lx_le (b p) = false) (h2 : lx_di (b p) = false) : lx_at b n p = (s_sg (b p), p, p + 1) := (if_neg h).trans ((if_neg (by rw [h1]; decide)).trans (if_neg (by rw [h2]; decide)))
set_option maxHeartbeats 400000 in
set_option maxRecDepth 100000 in
theorem c_X7_next (G : am_G) (D : Nat) (A : am_S) (σ : am_M) (hA : wf_T A) (hI : iv_M A σ) (hW : wo_A A) (a : Nat) (ha : σ.2.1 65 27 = nI a) (hn : a ≤ s_tp A) : am_Mt G (D + 1) mX7_next [.ref 65] σ 0 0 (am_qT A (lx_nx (A 74) (s_tp A) a) σ) := by
  have b6 := wt_6 hA
  have b160 := wt_160 hA
  refine am_of moX7_next (Nat.le_of_ble_eq_true rfl) ?_
  show am_Ev G mX7_next (am_R (D + 1) 0 0) 0 0 (am_qT A (lx_nx (A 74) (s_tp A) a) σ) 0 [(0, .ref 65)] [] σ 0 0
  have lp : ∀ (f : Nat) (a1 : Nat) (σ1 : am_M), (a1 ≤ s_tp A) → (σ1.2.1 65 27 = nI a1) → (lx_run lx_bl (A 74) (s_tp A - a) a = lx_run lx_bl (A 74) (s_tp A - a1) a1) → (iv_M A σ1) → (fr_T σ σ1) → s_tp A - a1 < f → am_Ev G mX7_next (am_R (D + 1) 0 0) 0 0 (am_qT A (lx_nx (A 74) (s_tp A) a) σ) 0 [(0, .ref 65)] [] σ1 0 0 := by
    intro f
    induction f with
    | zero => intro a1 σ1 h1 ha1 hr hI hT hf; exact absurd hf (Nat.not_lt_zero _)
    | succ f ih =>
      intro a1 σ1 h1 ha1 hr hI hT hf
      refine ev_aload_n dX7_next_0 rfl rfl ?_
      refine ev_getI (v := nI a1) dX7_next_1 fl_X7_107 (ly_k hI.ly 65 rfl) ha1 ?_
      refine ev_aload_n dX7_next_4 rfl rfl ?_
      refine ev_getI (v := nI (s_tp A)) dX7_next_5 fl_X7_79 (ly_k hI.ly 65 rfl) ((hI.rd 65 11 rfl).trans (wt_tp hA)) ?_
      refine ev_icmp_ge (tgt := 52) dX7_next_8 (by decide) (fun c1 => ?_) (fun c1 => ?_)
      · skip
        have c1n : (s_tp A) ≤ a1 := (nI_leI (a := (s_tp A)) (b := a1) (by omega) (by omega)).mp c1
        have ht : lx_nx (A 74) (s_tp A) a = lx_at (A 74) (s_tp A) a1 := congrArg (lx_at (A 74) (s_tp A)) (hr.trans (lx_run0 (by omega)))
        refine ev_aload_n dX7_next_52 rfl rfl ?_
        refine ev_aload_n dX7_next_53 rfl rfl ?_
        refine ev_getI (v := nI a1) dX7_next_54 fl_X7_107 (ly_k hI.ly 65 rfl) ha1 ?_
        refine ev_putI dX7_next_57 fl_X7_110 rfl rfl (ly_k hI.ly 65 rfl) ?_
        refine ev_aload_n dX7_next_60 rfl rfl ?_
        refine ev_iconst (v := 0) dX7_next_61 (by decide) ?_
        refine ev_putI dX7_next_62 fl_X7_113 rfl rfl (ly_k (iv_M.sc rfl hI).ly 65 rfl) ?_
        refine ev_aload_n dX7_next_65 rfl rfl ?_
        refine ev_iconst (v := 0) dX7_next_66 (by decide) ?_
        refine ev_putI dX7_next_67 fl_X7_116 rfl rfl (ly_k (iv_M.sc rfl (iv_M.sc rfl hI)).ly 65 rfl) ?_
        refine ev_aload_n dX7_next_70 rfl rfl ?_
        refine ev_getI (v := nI a1) dX7_next_71 fl_X7_107 (ly_k (iv_M.sc rfl (iv_M.sc rfl (iv_M.sc rfl hI))).ly 65 rfl) (am_ru (by omega) (am_ru (by omega) (am_ru (by omega) ha1))) ?_
        refine ev_aload_n dX7_next_74 rfl rfl ?_
        refine ev_getI (v := nI (s_tp A)) dX7_next_75 fl_X7_79 (ly_k (iv_M.sc rfl (iv_M.sc rfl (iv_M.sc rfl hI))).ly 65 rfl) (am_ru (by omega) (am_ru (by omega) (am_ru (by omega) ((hI.rd 65 11 rfl).trans (wt_tp hA))))) ?_
        refine ev_icmp_ne (tgt := 82) dX7_next_78 (by decide) (fun c => absurd (congrArg nI (by omega)) c) (fun _ => ?_)
        refine ev_retv dX7_next_81 rfl (Nat.zero_le _) (Nat.zero_le _) ?_
        refine ⟨rfl, (iv_M.sc rfl (iv_M.sc rfl (iv_M.sc rfl hI))), (fr_T.wr (by decide) (fr_T.wr (by decide) (fr_T.wr (by decide) hT))), ?_⟩
        rw [ht, lx_atO (by omega)]
        exact ⟨(am_ru (by omega) (am_ru (by omega) (am_ru (by omega) ha1))), (am_ru (by omega) (am_ru (by omega) am_rs)), ((am_ru (by omega) am_rs)).trans mt_ov.1.symm, fun z => absurd z mt_ov.2⟩
      · skip
        have c1n : ¬ (s_tp A) ≤ a1 := fun zz => c1 ((nI_leI (a := (s_tp A)) (b := a1) (by omega) (by omega)).mpr zz)
        refine ev_aload_n dX7_next_11 rfl rfl ?_
        refine ev_getR (b := 74) dX7_next_12 fl_X7_34 (ly_k hI.ly 65 rfl) (ly_r hI.ly 37 rfl) ?_
        refine ev_aload_n dX7_next_15 rfl rfl ?_
        refine ev_getI (v := nI a1) dX7_next_16 fl_X7_107 (ly_k hI.ly 65 rfl) ha1 ?_
        refine ev_iald (v := A 74 a1) dX7_next_19 (ly_k hI.ly 74 rfl) (am_ixn (by omega) (by decide)) (hI.rd 74 a1 rfl) ?_
        refine ev_bipush (v := 32) dX7_next_20 (by decide) ?_
        refine ev_icmp_eq (tgt := 39) dX7_next_22 (by decide) (fun c2 => ?_) (fun c2 => ?_)
        · skip
          refine ev_aload_n dX7_next_39 rfl rfl ?_
          refine ev_dup dX7_next_40 rfl ?_
          refine ev_getI (v := nI a1) dX7_next_41 fl_X7_107 (ly_k hI.ly 65 rfl) ha1 ?_
          refine ev_iconst (v := 1) dX7_next_44 (by decide) ?_
          refine ev_iadd (v := nI (a1 + 1)) dX7_next_45 (nI_1 _) ?_
          refine ev_putI dX7_next_46 fl_X7_107 rfl rfl (ly_k hI.ly 65 rfl) ?_
          refine ev_goto (tgt := 0) dX7_next_49 (by decide) ?_
          exact ih (a1 + 1) (am_sI σ1 65 27 (nI (a1 + 1))) (by omega) am_rs (by rw [← lx_runS (by omega) (lx_blT (Or.inl c2))]; exact hr) (iv_M.sc rfl hI) (fr_T.wr (by decide) hT) (by omega)
        · skip
          refine ev_aload_n dX7_next_25 rfl rfl ?_
          refine ev_getR (b := 74) dX7_next_26 fl_X7_34 (ly_k hI.ly 65 rfl) (ly_r hI.ly 37 rfl) ?_
          refine ev_aload_n dX7_next_29 rfl rfl ?_
          refine ev_getI (v := nI a1) dX7_next_30 fl_X7_107 (ly_k hI.ly 65 rfl) ha1 ?_
          refine ev_iald (v := A 74 a1) dX7_next_33 (ly_k hI.ly 74 rfl) (am_ixn (by omega) (by decide)) (hI.rd 74 a1 rfl) ?_
          refine ev_bipush (v := 10) dX7_next_34 (by decide) ?_
          refine ev_icmp_ne (tgt := 52) dX7_next_36 (by decide) (fun c3 => ?_) (fun c3 => ?_)
          · skip
            have ht : lx_nx (A 74) (s_tp A) a = lx_at (A 74) (s_tp A) a1 := congrArg (lx_at (A 74) (s_tp A)) (hr.trans (lx_runE (lx_blF c2 c3)))
            refine ev_aload_n dX7_next_52 rfl rfl ?_
            refine ev_aload_n dX7_next_53 rfl rfl ?_
            refine ev_getI (v := nI a1) dX7_next_54 fl_X7_107 (ly_k hI.ly 65 rfl) ha1 ?_
            refine ev_putI dX7_next_57 fl_X7_110 rfl rfl (ly_k hI.ly 65 rfl) ?_
            refine ev_aload_n dX7_next_60 rfl rfl ?_
            refine ev_iconst (v := 0) dX7_next_61 (by decide) ?_
            refine ev_putI dX7_next_62 fl_X7_113 rfl rfl (ly_k (iv_M.sc rfl hI).ly 65 rfl) ?_
            refine ev_aload_n dX7_next_65 rfl rfl ?_
            refine ev_iconst (v := 0) dX7_next_66 (by decide) ?_
            refine ev_putI dX7_next_67 fl_X7_116 rfl rfl (ly_k (iv_M.sc rfl (iv_M.sc rfl hI)).ly 65 rfl) ?_
            refine ev_aload_n dX7_next_70 rfl rfl ?_
            refine ev_getI (v := nI a1) dX7_next_71 fl_X7_107 (ly_k (iv_M.sc rfl (iv_M.sc rfl (iv_M.sc rfl hI))).ly 65 rfl) (am_ru (by omega) (am_ru (by omega) (am_ru (by omega) ha1))) ?_
            refine ev_aload_n dX7_next_74 rfl rfl ?_
            refine ev_getI (v := nI (s_tp A)) dX7_next_75 fl_X7_79 (ly_k (iv_M.sc rfl (iv_M.sc rfl (iv_M.sc rfl hI))).ly 65 rfl) (am_ru (by omega) (am_ru (by omega) (am_ru (by omega) ((hI.rd 65 11 rfl).trans (wt_tp hA))))) ?_
            refine ev_icmp_ne (tgt := 82) dX7_next_78 (by decide) (fun _ => ?_) (fun c => absurd c (fun z => absurd ((nI_eq (by omega) (by omega)).mp z) (by omega)))
            refine ev_aload_n dX7_next_82 rfl rfl ?_
            refine ev_getR (b := 74) dX7_next_83 fl_X7_34 (ly_k (iv_M.sc rfl (iv_M.sc rfl (iv_M.sc rfl hI))).ly 65 rfl) (ly_r (iv_M.sc rfl (iv_M.sc rfl (iv_M.sc rfl hI))).ly 37 rfl) ?_
            refine ev_aload_n dX7_next_86 rfl rfl ?_
            refine ev_getI (v := nI a1) dX7_next_87 fl_X7_107 (ly_k (iv_M.sc rfl (iv_M.sc rfl (iv_M.sc rfl hI))).ly 65 rfl) (am_ru (by omega) (am_ru (by omega) (am_ru (by omega) ha1))) ?_
            refine ev_iald (v := A 74 a1) dX7_next_90 (ly_k (iv_M.sc rfl (iv_M.sc rfl (iv_M.sc rfl hI))).ly 74 rfl) (am_ixn (by omega) (by decide)) (am_ru (by omega) (am_ru (by omega) (am_ru (by omega) (hI.rd 74 a1 rfl)))) ?_
            refine ev_istore_n (lv' := [(0, .ref 65), (1, .int (A 74 a1))]) dX7_next_91 rfl (by decide) rfl ?_
            refine ev_iload_n dX7_next_92 rfl rfl ?_
            refine ev_bipush (v := 97) dX7_next_93 (by decide) ?_
            refine ev_bipush (v := 122) dX7_next_95 (by decide) ?_
            refine ev_callS (as := [.int (A 74 a1), .int 97, .int 122]) (st := []) dX7_next_97 mfX7_in lk_X7_90 (c_X7_in G D (am_sI (am_sI (am_sI σ1 65 28 (nI a1)) 65 29 0) 65 30 0) (A 74 a1) 97 122) rfl rfl (Nat.le_of_ble_eq_true rfl) (am_hR (by omega) (by decide)) ⟨Nat.le_refl _, Nat.le_refl _⟩ ?_
            rintro _ _ (⟨h4, rfl, rfl⟩ | ⟨h4, rfl, rfl⟩)
            · skip
              have hch4 := lx_leT h4
              refine ev_if_eq (tgt := 217) dX7_next_100 (by decide) (fun c => absurd c (by decide)) (fun _ => ?_)
              have lq : ∀ (f : Nat) (q : Nat) (σ2 : am_M), (a1 ≤ q) → (q ≤ s_tp A) → (lx_run lx_le (A 74) (s_tp A - a1) a1 = lx_run lx_le (A 74) (s_tp A - q) q) → (σ2.2.1 65 27 = nI q) → (σ2.2.1 65 28 = nI a1) → (iv_M A σ2) → (fr_T σ σ2) → s_tp A - q < f → am_Ev G mX7_next (am_R (D + 1) 0 0) 0 0 (am_qT A (lx_nx (A 74) (s_tp A) a) σ) 103 [(0, .ref 65), (1, .int (A 74 a1))] [] σ2 0 0 := by
                intro f
                induction f with
                | zero => intro q σ2 hq1 hq2 hrq h27 h28 hI2 hT2 hf; exact absurd hf (Nat.not_lt_zero _)
                | succ f ih_lq =>
                  intro q σ2 hq1 hq2 hrq h27 h28 hI2 hT2 hf
                  refine ev_aload_n dX7_next_103 rfl rfl ?_
                  refine ev_getI (v := nI q) dX7_next_104 fl_X7_107 (ly_k hI2.ly 65 rfl) h27 ?_
                  refine ev_aload_n dX7_next_107 rfl rfl ?_
                  refine ev_getI (v := nI (s_tp A)) dX7_next_108 fl_X7_79 (ly_k hI2.ly 65 rfl) ((hI2.rd 65 11 rfl).trans (wt_tp hA)) ?_
                  refine ev_icmp_ge (tgt := 146) dX7_next_111 (by decide) (fun c5 => ?_) (fun c5 => ?_)
                  · skip
                    have c5n : (s_tp A) ≤ q := (nI_leI (a := (s_tp A)) (b := q) (by omega) (by omega)).mp c5
                    refine ev_aload_n dX7_next_146 rfl rfl ?_
                    refine ev_aload_n dX7_next_147 rfl rfl ?_
                    refine ev_getI (v := nI a1) dX7_next_148 fl_X7_110 (ly_k hI2.ly 65 rfl) h28 ?_
                    refine ev_aload_n dX7_next_151 rfl rfl ?_
                    refine ev_getI (v := nI q) dX7_next_152 fl_X7_107 (ly_k hI2.ly 65 rfl) h27 ?_
                    refine ev_callV (as := [.int (nI a1), .int (nI q)]) (st := []) dX7_next_155 mfX7_wordFrom lk_X7_119 (ly_k hI2.ly 65 rfl) (by decide) rfl (c_X7_wordFrom G D A σ2 hA hI2 hW a1 q (by omega) (by omega)) rfl rfl (Nat.le_of_ble_eq_true rfl) (am_hR (by omega) (by decide)) ⟨Nat.le_refl _, Nat.le_refl _⟩ ?_
                    rintro _ _ ⟨rfl, rfl⟩
                    have hwl := lx_wilt (b := A 74) (p := a1) (q := q)
                    refine ev_istore_n (lv' := [(0, .ref 65), (1, .int (A 74 a1)), (2, .int (nI (lx_wi (A 74) a1 q)))]) dX7_next_158 rfl (by decide) rfl ?_
                    refine ev_aload_n dX7_next_159 rfl rfl ?_
                    refine ev_iload_n dX7_next_160 rfl rfl ?_
                    refine ev_iconst (v := 3) dX7_next_161 (by decide) ?_
                    refine ev_icmp_ge (tgt := 169) dX7_next_162 (by decide) (fun c6 => ?_) (fun c6 => ?_)
                    · skip
                      have c6n : 3 ≤ (lx_wi (A 74) a1 q) := (nI_leI (a := 3) (b := (lx_wi (A 74) a1 q)) (by omega) (by omega)).mp c6
                      refine ev_iload_n dX7_next_169 rfl rfl ?_
                      refine ev_bipush (v := 9) dX7_next_170 (by decide) ?_
                      refine ev_icmp_ge (tgt := 179) dX7_next_172 (by decide) (fun c7 => ?_) (fun c7 => ?_)
                      · skip
                        have c7n : 9 ≤ (lx_wi (A 74) a1 q) := (nI_leI (a := 9) (b := (lx_wi (A 74) a1 q)) (by omega) (by omega)).mp c7
                        refine ev_iload_n dX7_next_179 rfl rfl ?_
                        refine ev_bipush (v := 12) dX7_next_180 (by decide) ?_
                        refine ev_icmp_ne (tgt := 189) dX7_next_182 (by decide) (fun c8 => ?_) (fun c8 => ?_)
                        · skip
                          have c8n : ¬ (lx_wi (A 74) a1 q) = 12 := fun zz => c8 ((nI_eq (a := (lx_wi (A 74) a1 q)) (b := 12) (by omega) (by omega)).mpr zz)
                          refine ev_iconst (v := 4) dX7_next_189 (by decide) ?_
                          refine ev_iload_n dX7_next_190 rfl rfl ?_
                          refine ev_iadd (v := 4 + nI (lx_wi (A 74) a1 q)) dX7_next_191 rfl ?_
                          refine ev_bipush (v := 9) dX7_next_192 (by decide) ?_
                          refine ev_isub (v := (4 + nI (lx_wi (A 74) a1 q)) - 9) dX7_next_194 rfl ?_
                          refine ev_putI dX7_next_195 fl_X7_113 rfl rfl (ly_k hI2.ly 65 rfl) ?_
                          refine ev_aload_n dX7_next_198 rfl rfl ?_
                          refine ev_iload_n dX7_next_199 rfl rfl ?_
                          refine ev_iconst (v := 3) dX7_next_200 (by decide) ?_
                          refine ev_icmp_ge (tgt := 208) dX7_next_201 (by decide) (fun _ => ?_) (fun c => absurd (c6) c)
                          refine ev_iload_n dX7_next_208 rfl rfl ?_
                          refine ev_iconst (v := 3) dX7_next_209 (by decide) ?_
                          refine ev_isub (v := nI (lx_wi (A 74) a1 q) - 3) dX7_next_210 rfl ?_
                          refine ev_putI dX7_next_211 fl_X7_116 rfl rfl (ly_k (iv_M.sc rfl hI2).ly 65 rfl) ?_
                          refine ev_goto (tgt := 403) dX7_next_214 (by decide) ?_
                          refine ev_retv dX7_next_403 rfl (Nat.zero_le _) (Nat.zero_le _) ?_
                          refine ⟨rfl, (iv_M.sc rfl (iv_M.sc rfl hI2)), (fr_T.wr (by decide) (fr_T.wr (by decide) hT2)), ?_⟩
                          rw [ht, lx_atL (by omega) hch4 (hrq.trans (lx_run0 (by omega)))]
                          exact ⟨(am_ru (by omega) (am_ru (by omega) h27)), (am_ru (by omega) (am_ru (by omega) h28)), ((am_ru (by omega) am_rs)).trans (by rw [(mt_tw hwl).1, if_neg (show ¬ lx_wi (A 74) a1 q < 3 by omega), if_neg (show ¬ lx_wi (A 74) a1 q < 9 by omega), if_neg (show ¬ lx_wi (A 74) a1 q = 12 by omega)]), fun z => (am_rs).trans (by rw [(mt_tw hwl).2 z, if_neg (show ¬ lx_wi (A 74) a1 q < 3 by omega)])⟩
                        · skip
                          have c8n : (lx_wi (A 74) a1 q) = 12 := (nI_eq (a := (lx_wi (A 74) a1 q)) (b := 12) (by omega) (by omega)).mp c8
                          refine ev_iconst (v := (-1)) dX7_next_185 (by decide) ?_
                          refine ev_goto (tgt := 195) dX7_next_186 (by decide) ?_
                          refine ev_putI dX7_next_195 fl_X7_113 rfl rfl (ly_k hI2.ly 65 rfl) ?_
                          refine ev_aload_n dX7_next_198 rfl rfl ?_
                          refine ev_iload_n dX7_next_199 rfl rfl ?_
                          refine ev_iconst (v := 3) dX7_next_200 (by decide) ?_
                          refine ev_icmp_ge (tgt := 208) dX7_next_201 (by decide) (fun _ => ?_) (fun c => absurd (c6) c)
                          refine ev_iload_n dX7_next_208 rfl rfl ?_
                          refine ev_iconst (v := 3) dX7_next_209 (by decide) ?_
                          refine ev_isub (v := nI (lx_wi (A 74) a1 q) - 3) dX7_next_210 rfl ?_
                          refine ev_putI dX7_next_211 fl_X7_116 rfl rfl (ly_k (iv_M.sc rfl hI2).ly 65 rfl) ?_
                          refine ev_goto (tgt := 403) dX7_next_214 (by decide) ?_
                          refine ev_retv dX7_next_403 rfl (Nat.zero_le _) (Nat.zero_le _) ?_
                          refine ⟨rfl, (iv_M.sc rfl (iv_M.sc rfl hI2)), (fr_T.wr (by decide) (fr_T.wr (by decide) hT2)), ?_⟩
                          rw [ht, lx_atL (by omega) hch4 (hrq.trans (lx_run0 (by omega)))]
                          exact ⟨(am_ru (by omega) (am_ru (by omega) h27)), (am_ru (by omega) (am_ru (by omega) h28)), ((am_ru (by omega) am_rs)).trans (by rw [(mt_tw hwl).1, if_neg (show ¬ lx_wi (A 74) a1 q < 3 by omega), if_neg (show ¬ lx_wi (A 74) a1 q < 9 by omega), if_pos (show lx_wi (A 74) a1 q = 12 by omega)]), fun z => (am_rs).trans (by rw [(mt_tw hwl).2 z, if_neg (show ¬ lx_wi (A 74) a1 q < 3 by omega)])⟩
                      · skip
                        have c7n : ¬ 9 ≤ (lx_wi (A 74) a1 q) := fun zz => c7 ((nI_leI (a := 9) (b := (lx_wi (A 74) a1 q)) (by omega) (by omega)).mpr zz)
                        refine ev_iconst (v := 2) dX7_next_175 (by decide) ?_
                        refine ev_goto (tgt := 195) dX7_next_176 (by decide) ?_
                        refine ev_putI dX7_next_195 fl_X7_113 rfl rfl (ly_k hI2.ly 65 rfl) ?_
                        refine ev_aload_n dX7_next_198 rfl rfl ?_
                        refine ev_iload_n dX7_next_199 rfl rfl ?_
                        refine ev_iconst (v := 3) dX7_next_200 (by decide) ?_
                        refine ev_icmp_ge (tgt := 208) dX7_next_201 (by decide) (fun _ => ?_) (fun c => absurd (c6) c)
                        refine ev_iload_n dX7_next_208 rfl rfl ?_
                        refine ev_iconst (v := 3) dX7_next_209 (by decide) ?_
                        refine ev_isub (v := nI (lx_wi (A 74) a1 q) - 3) dX7_next_210 rfl ?_
                        refine ev_putI dX7_next_211 fl_X7_116 rfl rfl (ly_k (iv_M.sc rfl hI2).ly 65 rfl) ?_
                        refine ev_goto (tgt := 403) dX7_next_214 (by decide) ?_
                        refine ev_retv dX7_next_403 rfl (Nat.zero_le _) (Nat.zero_le _) ?_
                        refine ⟨rfl, (iv_M.sc rfl (iv_M.sc rfl hI2)), (fr_T.wr (by decide) (fr_T.wr (by decide) hT2)), ?_⟩
                        rw [ht, lx_atL (by omega) hch4 (hrq.trans (lx_run0 (by omega)))]
                        exact ⟨(am_ru (by omega) (am_ru (by omega) h27)), (am_ru (by omega) (am_ru (by omega) h28)), ((am_ru (by omega) am_rs)).trans (by rw [(mt_tw hwl).1, if_neg (show ¬ lx_wi (A 74) a1 q < 3 by omega), if_pos (show lx_wi (A 74) a1 q < 9 by omega)]), fun z => (am_rs).trans (by rw [(mt_tw hwl).2 z, if_neg (show ¬ lx_wi (A 74) a1 q < 3 by omega)])⟩
                    · skip
                      have c6n : ¬ 3 ≤ (lx_wi (A 74) a1 q) := fun zz => c6 ((nI_leI (a := 3) (b := (lx_wi (A 74) a1 q)) (by omega) (by omega)).mpr zz)
                      refine ev_iconst (v := 3) dX7_next_165 (by decide) ?_
                      refine ev_goto (tgt := 195) dX7_next_166 (by decide) ?_
                      refine ev_putI dX7_next_195 fl_X7_113 rfl rfl (ly_k hI2.ly 65 rfl) ?_
                      refine ev_aload_n dX7_next_198 rfl rfl ?_
                      refine ev_iload_n dX7_next_199 rfl rfl ?_
                      refine ev_iconst (v := 3) dX7_next_200 (by decide) ?_
                      refine ev_icmp_ge (tgt := 208) dX7_next_201 (by decide) (fun c => absurd c (c6)) (fun _ => ?_)
                      refine ev_iload_n dX7_next_204 rfl rfl ?_
                      refine ev_goto (tgt := 211) dX7_next_205 (by decide) ?_
                      refine ev_putI dX7_next_211 fl_X7_116 rfl rfl (ly_k (iv_M.sc rfl hI2).ly 65 rfl) ?_
                      refine ev_goto (tgt := 403) dX7_next_214 (by decide) ?_
                      refine ev_retv dX7_next_403 rfl (Nat.zero_le _) (Nat.zero_le _) ?_
                      refine ⟨rfl, (iv_M.sc rfl (iv_M.sc rfl hI2)), (fr_T.wr (by decide) (fr_T.wr (by decide) hT2)), ?_⟩
                      rw [ht, lx_atL (by omega) hch4 (hrq.trans (lx_run0 (by omega)))]
                      exact ⟨(am_ru (by omega) (am_ru (by omega) h27)), (am_ru (by omega) (am_ru (by omega) h28)), ((am_ru (by omega) am_rs)).trans (by rw [(mt_tw hwl).1, if_pos (show lx_wi (A 74) a1 q < 3 by omega)]), fun z => (am_rs).trans (by rw [(mt_tw hwl).2 z, if_pos (show lx_wi (A 74) a1 q < 3 by omega)])⟩
                  · skip
                    have c5n : ¬ (s_tp A) ≤ q := fun zz => c5 ((nI_leI (a := (s_tp A)) (b := q) (by omega) (by omega)).mpr zz)
                    refine ev_aload_n dX7_next_114 rfl rfl ?_
                    refine ev_getR (b := 74) dX7_next_115 fl_X7_34 (ly_k hI2.ly 65 rfl) (ly_r hI2.ly 37 rfl) ?_
                    refine ev_aload_n dX7_next_118 rfl rfl ?_
                    refine ev_getI (v := nI q) dX7_next_119 fl_X7_107 (ly_k hI2.ly 65 rfl) h27 ?_
                    refine ev_iald (v := A 74 q) dX7_next_122 (ly_k hI2.ly 74 rfl) (am_ixn (by omega) (by decide)) (hI2.rd 74 q rfl) ?_
                    refine ev_bipush (v := 97) dX7_next_123 (by decide) ?_
                    refine ev_bipush (v := 122) dX7_next_125 (by decide) ?_
                    refine ev_callS (as := [.int (A 74 q), .int 97, .int 122]) (st := []) dX7_next_127 mfX7_in lk_X7_90 (c_X7_in G D σ2 (A 74 q) 97 122) rfl rfl (Nat.le_of_ble_eq_true rfl) (am_hR (by omega) (by decide)) ⟨Nat.le_refl _, Nat.le_refl _⟩ ?_
                    rintro _ _ (⟨h9, rfl, rfl⟩ | ⟨h9, rfl, rfl⟩)
                    · skip
                      have hch9 := lx_leT h9
                      refine ev_if_eq (tgt := 146) dX7_next_130 (by decide) (fun c => absurd c (by decide)) (fun _ => ?_)
                      refine ev_aload_n dX7_next_133 rfl rfl ?_
                      refine ev_dup dX7_next_134 rfl ?_
                      refine ev_getI (v := nI q) dX7_next_135 fl_X7_107 (ly_k hI2.ly 65 rfl) h27 ?_
                      refine ev_iconst (v := 1) dX7_next_138 (by decide) ?_
                      refine ev_iadd (v := nI (q + 1)) dX7_next_139 (nI_1 _) ?_
                      refine ev_putI dX7_next_140 fl_X7_107 rfl rfl (ly_k hI2.ly 65 rfl) ?_
                      refine ev_goto (tgt := 103) dX7_next_143 (by decide) ?_
                      exact ih_lq (q + 1) (am_sI σ2 65 27 (nI (q + 1))) (by omega) (by omega) (by rw [← lx_runS (by omega) hch9]; exact hrq) am_rs (am_ru (by omega) h28) (iv_M.sc rfl hI2) (fr_T.wr (by decide) hT2) (by omega)
                    · skip
                      have hch9 := lx_leF h9
                      refine ev_if_eq (tgt := 146) dX7_next_130 (by decide) (fun _ => ?_) (fun c => absurd (by decide) c)
                      refine ev_aload_n dX7_next_146 rfl rfl ?_
                      refine ev_aload_n dX7_next_147 rfl rfl ?_
                      refine ev_getI (v := nI a1) dX7_next_148 fl_X7_110 (ly_k hI2.ly 65 rfl) h28 ?_
                      refine ev_aload_n dX7_next_151 rfl rfl ?_
                      refine ev_getI (v := nI q) dX7_next_152 fl_X7_107 (ly_k hI2.ly 65 rfl) h27 ?_
                      refine ev_callV (as := [.int (nI a1), .int (nI q)]) (st := []) dX7_next_155 mfX7_wordFrom lk_X7_119 (ly_k hI2.ly 65 rfl) (by decide) rfl (c_X7_wordFrom G D A σ2 hA hI2 hW a1 q (by omega) (by omega)) rfl rfl (Nat.le_of_ble_eq_true rfl) (am_hR (by omega) (by decide)) ⟨Nat.le_refl _, Nat.le_refl _⟩ ?_
                      rintro _ _ ⟨rfl, rfl⟩
                      have hwl := lx_wilt (b := A 74) (p := a1) (q := q)
                      refine ev_istore_n (lv' := [(0, .ref 65), (1, .int (A 74 a1)), (2, .int (nI (lx_wi (A 74) a1 q)))]) dX7_next_158 rfl (by decide) rfl ?_
                      refine ev_aload_n dX7_next_159 rfl rfl ?_
                      refine ev_iload_n dX7_next_160 rfl rfl ?_
                      refine ev_iconst (v := 3) dX7_next_161 (by decide) ?_
                      refine ev_icmp_ge (tgt := 169) dX7_next_162 (by decide) (fun c10 => ?_) (fun c10 => ?_)
                      · skip
                        have c10n : 3 ≤ (lx_wi (A 74) a1 q) := (nI_leI (a := 3) (b := (lx_wi (A 74) a1 q)) (by omega) (by omega)).mp c10
                        refine ev_iload_n dX7_next_169 rfl rfl ?_
                        refine ev_bipush (v := 9) dX7_next_170 (by decide) ?_
                        refine ev_icmp_ge (tgt := 179) dX7_next_172 (by decide) (fun c11 => ?_) (fun c11 => ?_)
                        · skip
                          have c11n : 9 ≤ (lx_wi (A 74) a1 q) := (nI_leI (a := 9) (b := (lx_wi (A 74) a1 q)) (by omega) (by omega)).mp c11
                          refine ev_iload_n dX7_next_179 rfl rfl ?_
                          refine ev_bipush (v := 12) dX7_next_180 (by decide) ?_
                          refine ev_icmp_ne (tgt := 189) dX7_next_182 (by decide) (fun c12 => ?_) (fun c12 => ?_)
                          · skip
                            have c12n : ¬ (lx_wi (A 74) a1 q) = 12 := fun zz => c12 ((nI_eq (a := (lx_wi (A 74) a1 q)) (b := 12) (by omega) (by omega)).mpr zz)
                            refine ev_iconst (v := 4) dX7_next_189 (by decide) ?_
                            refine ev_iload_n dX7_next_190 rfl rfl ?_
                            refine ev_iadd (v := 4 + nI (lx_wi (A 74) a1 q)) dX7_next_191 rfl ?_
                            refine ev_bipush (v := 9) dX7_next_192 (by decide) ?_
                            refine ev_isub (v := (4 + nI (lx_wi (A 74) a1 q)) - 9) dX7_next_194 rfl ?_
                            refine ev_putI dX7_next_195 fl_X7_113 rfl rfl (ly_k hI2.ly 65 rfl) ?_
                            refine ev_aload_n dX7_next_198 rfl rfl ?_
                            refine ev_iload_n dX7_next_199 rfl rfl ?_
                            refine ev_iconst (v := 3) dX7_next_200 (by decide) ?_
                            refine ev_icmp_ge (tgt := 208) dX7_next_201 (by decide) (fun _ => ?_) (fun c => absurd (c10) c)
                            refine ev_iload_n dX7_next_208 rfl rfl ?_
                            refine ev_iconst (v := 3) dX7_next_209 (by decide) ?_
                            refine ev_isub (v := nI (lx_wi (A 74) a1 q) - 3) dX7_next_210 rfl ?_
                            refine ev_putI dX7_next_211 fl_X7_116 rfl rfl (ly_k (iv_M.sc rfl hI2).ly 65 rfl) ?_
                            refine ev_goto (tgt := 403) dX7_next_214 (by decide) ?_
                            refine ev_retv dX7_next_403 rfl (Nat.zero_le _) (Nat.zero_le _) ?_
                            refine ⟨rfl, (iv_M.sc rfl (iv_M.sc rfl hI2)), (fr_T.wr (by decide) (fr_T.wr (by decide) hT2)), ?_⟩
                            rw [ht, lx_atL (by omega) hch4 (hrq.trans (lx_runE hch9))]
                            exact ⟨(am_ru (by omega) (am_ru (by omega) h27)), (am_ru (by omega) (am_ru (by omega) h28)), ((am_ru (by omega) am_rs)).trans (by rw [(mt_tw hwl).1, if_neg (show ¬ lx_wi (A 74) a1 q < 3 by omega), if_neg (show ¬ lx_wi (A 74) a1 q < 9 by omega), if_neg (show ¬ lx_wi (A 74) a1 q = 12 by omega)]), fun z => (am_rs).trans (by rw [(mt_tw hwl).2 z, if_neg (show ¬ lx_wi (A 74) a1 q < 3 by omega)])⟩
                          · skip
                            have c12n : (lx_wi (A 74) a1 q) = 12 := (nI_eq (a := (lx_wi (A 74) a1 q)) (b := 12) (by omega) (by omega)).mp c12
                            refine ev_iconst (v := (-1)) dX7_next_185 (by decide) ?_
                            refine ev_goto (tgt := 195) dX7_next_186 (by decide) ?_
                            refine ev_putI dX7_next_195 fl_X7_113 rfl rfl (ly_k hI2.ly 65 rfl) ?_
                            refine ev_aload_n dX7_next_198 rfl rfl ?_
                            refine ev_iload_n dX7_next_199 rfl rfl ?_
                            refine ev_iconst (v := 3) dX7_next_200 (by decide) ?_
                            refine ev_icmp_ge (tgt := 208) dX7_next_201 (by decide) (fun _ => ?_) (fun c => absurd (c10) c)
                            refine ev_iload_n dX7_next_208 rfl rfl ?_
                            refine ev_iconst (v := 3) dX7_next_209 (by decide) ?_
                            refine ev_isub (v := nI (lx_wi (A 74) a1 q) - 3) dX7_next_210 rfl ?_
                            refine ev_putI dX7_next_211 fl_X7_116 rfl rfl (ly_k (iv_M.sc rfl hI2).ly 65 rfl) ?_
                            refine ev_goto (tgt := 403) dX7_next_214 (by decide) ?_
                            refine ev_retv dX7_next_403 rfl (Nat.zero_le _) (Nat.zero_le _) ?_
                            refine ⟨rfl, (iv_M.sc rfl (iv_M.sc rfl hI2)), (fr_T.wr (by decide) (fr_T.wr (by decide) hT2)), ?_⟩
                            rw [ht, lx_atL (by omega) hch4 (hrq.trans (lx_runE hch9))]
                            exact ⟨(am_ru (by omega) (am_ru (by omega) h27)), (am_ru (by omega) (am_ru (by omega) h28)), ((am_ru (by omega) am_rs)).trans (by rw [(mt_tw hwl).1, if_neg (show ¬ lx_wi (A 74) a1 q < 3 by omega), if_neg (show ¬ lx_wi (A 74) a1 q < 9 by omega), if_pos (show lx_wi (A 74) a1 q = 12 by omega)]), fun z => (am_rs).trans (by rw [(mt_tw hwl).2 z, if_neg (show ¬ lx_wi (A 74) a1 q < 3 by omega)])⟩
                        · skip
                          have c11n : ¬ 9 ≤ (lx_wi (A 74) a1 q) := fun zz => c11 ((nI_leI (a := 9) (b := (lx_wi (A 74) a1 q)) (by omega) (by omega)).mpr zz)
                          refine ev_iconst (v := 2) dX7_next_175 (by decide) ?_
                          refine ev_goto (tgt := 195) dX7_next_176 (by decide) ?_
                          refine ev_putI dX7_next_195 fl_X7_113 rfl rfl (ly_k hI2.ly 65 rfl) ?_
                          refine ev_aload_n dX7_next_198 rfl rfl ?_
                          refine ev_iload_n dX7_next_199 rfl rfl ?_
                          refine ev_iconst (v := 3) dX7_next_200 (by decide) ?_
                          refine ev_icmp_ge (tgt := 208) dX7_next_201 (by decide) (fun _ => ?_) (fun c => absurd (c10) c)
                          refine ev_iload_n dX7_next_208 rfl rfl ?_
                          refine ev_iconst (v := 3) dX7_next_209 (by decide) ?_
                          refine ev_isub (v := nI (lx_wi (A 74) a1 q) - 3) dX7_next_210 rfl ?_
                          refine ev_putI dX7_next_211 fl_X7_116 rfl rfl (ly_k (iv_M.sc rfl hI2).ly 65 rfl) ?_
                          refine ev_goto (tgt := 403) dX7_next_214 (by decide) ?_
                          refine ev_retv dX7_next_403 rfl (Nat.zero_le _) (Nat.zero_le _) ?_
                          refine ⟨rfl, (iv_M.sc rfl (iv_M.sc rfl hI2)), (fr_T.wr (by decide) (fr_T.wr (by decide) hT2)), ?_⟩
                          rw [ht, lx_atL (by omega) hch4 (hrq.trans (lx_runE hch9))]
                          exact ⟨(am_ru (by omega) (am_ru (by omega) h27)), (am_ru (by omega) (am_ru (by omega) h28)), ((am_ru (by omega) am_rs)).trans (by rw [(mt_tw hwl).1, if_neg (show ¬ lx_wi (A 74) a1 q < 3 by omega), if_pos (show lx_wi (A 74) a1 q < 9 by omega)]), fun z => (am_rs).trans (by rw [(mt_tw hwl).2 z, if_neg (show ¬ lx_wi (A 74) a1 q < 3 by omega)])⟩
                      · skip
                        have c10n : ¬ 3 ≤ (lx_wi (A 74) a1 q) := fun zz => c10 ((nI_leI (a := 3) (b := (lx_wi (A 74) a1 q)) (by omega) (by omega)).mpr zz)
                        refine ev_iconst (v := 3) dX7_next_165 (by decide) ?_
                        refine ev_goto (tgt := 195) dX7_next_166 (by decide) ?_
                        refine ev_putI dX7_next_195 fl_X7_113 rfl rfl (ly_k hI2.ly 65 rfl) ?_
                        refine ev_aload_n dX7_next_198 rfl rfl ?_
                        refine ev_iload_n dX7_next_199 rfl rfl ?_
                        refine ev_iconst (v := 3) dX7_next_200 (by decide) ?_
                        refine ev_icmp_ge (tgt := 208) dX7_next_201 (by decide) (fun c => absurd c (c10)) (fun _ => ?_)
                        refine ev_iload_n dX7_next_204 rfl rfl ?_
                        refine ev_goto (tgt := 211) dX7_next_205 (by decide) ?_
                        refine ev_putI dX7_next_211 fl_X7_116 rfl rfl (ly_k (iv_M.sc rfl hI2).ly 65 rfl) ?_
                        refine ev_goto (tgt := 403) dX7_next_214 (by decide) ?_
                        refine ev_retv dX7_next_403 rfl (Nat.zero_le _) (Nat.zero_le _) ?_
                        refine ⟨rfl, (iv_M.sc rfl (iv_M.sc rfl hI2)), (fr_T.wr (by decide) (fr_T.wr (by decide) hT2)), ?_⟩
                        rw [ht, lx_atL (by omega) hch4 (hrq.trans (lx_runE hch9))]
                        exact ⟨(am_ru (by omega) (am_ru (by omega) h27)), (am_ru (by omega) (am_ru (by omega) h28)), ((am_ru (by omega) am_rs)).trans (by rw [(mt_tw hwl).1, if_pos (show lx_wi (A 74) a1 q < 3 by omega)]), fun z => (am_rs).trans (by rw [(mt_tw hwl).2 z, if_pos (show lx_wi (A 74) a1 q < 3 by omega)])⟩
              exact lq _ a1 (am_sI (am_sI (am_sI σ1 65 28 (nI a1)) 65 29 0) 65 30 0) (by omega) (by omega) rfl (am_ru (by omega) (am_ru (by omega) (am_ru (by omega) ha1))) (am_ru (by omega) (am_ru (by omega) am_rs)) (iv_M.sc rfl (iv_M.sc rfl (iv_M.sc rfl hI))) (fr_T.wr (by decide) (fr_T.wr (by decide) (fr_T.wr (by decide) hT))) (Nat.lt_succ_self _)
            · skip
              have hch4 := lx_leF h4
              refine ev_if_eq (tgt := 217) dX7_next_100 (by decide) (fun _ => ?_) (fun c => absurd (by decide) c)
              refine ev_iload_n dX7_next_217 rfl rfl ?_
              refine ev_bipush (v := 48) dX7_next_218 (by decide) ?_
              refine ev_bipush (v := 57) dX7_next_220 (by decide) ?_
              refine ev_callS (as := [.int (A 74 a1), .int 48, .int 57]) (st := []) dX7_next_222 mfX7_in lk_X7_90 (c_X7_in G D (am_sI (am_sI (am_sI σ1 65 28 (nI a1)) 65 29 0) 65 30 0) (A 74 a1) 48 57) rfl rfl (Nat.le_of_ble_eq_true rfl) (am_hR (by omega) (by decide)) ⟨Nat.le_refl _, Nat.le_refl _⟩ ?_
              rintro _ _ (⟨h13, rfl, rfl⟩ | ⟨h13, rfl, rfl⟩)
              · skip
                have hch13 := lx_diT h13
                refine ev_if_eq (tgt := 326) dX7_next_225 (by decide) (fun c => absurd c (by decide)) (fun _ => ?_)
                refine ev_iconst (v := 0) dX7_next_228 (by decide) ?_
                refine ev_istore_n (lv' := [(0, .ref 65), (1, .int (A 74 a1)), (2, .int 0)]) dX7_next_229 rfl (by decide) rfl ?_
                have lr : ∀ (f : Nat) (i : Nat) (σ2 : am_M), (a1 + i ≤ s_tp A) → (lx_run lx_di (A 74) (s_tp A - a1) a1 = lx_run lx_di (A 74) (s_tp A - (a1 + i)) (a1 + i)) → (∀ j, j < i → lx_di (A 74 (a1 + j)) = true) → (σ2.2.1 65 27 = nI (a1 + i)) → (σ2.2.1 65 28 = nI a1) → (i ≤ 4 → σ2.2.1 65 30 = nI (lx_v (A 74) a1 i)) → (iv_M A σ2) → (fr_T σ σ2) → s_tp A - (a1 + i) < f → am_Ev G mX7_next (am_R (D + 1) 0 0) 0 0 (am_qT A (lx_nx (A 74) (s_tp A) a) σ) 230 [(0, .ref 65), (1, .int (A 74 a1)), (2, .int (nI i))] [] σ2 0 0 := by
                  intro f
                  induction f with
                  | zero => intro i σ2 hi hrq hdd h27 h28 hv hI2 hT2 hf; exact absurd hf (Nat.not_lt_zero _)
                  | succ f ih_lr =>
                    intro i σ2 hi hrq hdd h27 h28 hv hI2 hT2 hf
                    refine ev_aload_n dX7_next_230 rfl rfl ?_
                    refine ev_getI (v := nI (a1 + i)) dX7_next_231 fl_X7_107 (ly_k hI2.ly 65 rfl) h27 ?_
                    refine ev_aload_n dX7_next_234 rfl rfl ?_
                    refine ev_getI (v := nI (s_tp A)) dX7_next_235 fl_X7_79 (ly_k hI2.ly 65 rfl) ((hI2.rd 65 11 rfl).trans (wt_tp hA)) ?_
                    refine ev_icmp_ge (tgt := 309) dX7_next_238 (by decide) (fun c14 => ?_) (fun c14 => ?_)
                    · skip
                      have c14n : (s_tp A) ≤ (a1 + i) := (nI_leI (a := (s_tp A)) (b := (a1 + i)) (by omega) (by omega)).mp c14
                      refine ev_aload_n dX7_next_309 rfl rfl ?_
                      refine ev_iload_n dX7_next_310 rfl rfl ?_
                      refine ev_iconst (v := 4) dX7_next_311 (by decide) ?_
                      refine ev_icmp_le (tgt := 319) dX7_next_312 (by decide) (fun c15 => ?_) (fun c15 => ?_)
                      · skip
                        have c15n : i ≤ 4 := (nI_leI (a := i) (b := 4) (by omega) (by omega)).mp c15
                        refine ev_iconst (v := 1) dX7_next_319 (by decide) ?_
                        refine ev_putI dX7_next_320 fl_X7_113 rfl rfl (ly_k hI2.ly 65 rfl) ?_
                        refine ev_goto (tgt := 403) dX7_next_323 (by decide) ?_
                        refine ev_retv dX7_next_403 rfl (Nat.zero_le _) (Nat.zero_le _) ?_
                        refine ⟨rfl, (iv_M.sc rfl hI2), (fr_T.wr (by decide) hT2), ?_⟩
                        rw [ht, lx_atD (by omega) hch4 hch13 (hrq.trans (lx_run0 (by omega))), Nat.add_sub_cancel_left]
                        have hb : lx_v (A 74) a1 i < 10000 := Nat.lt_of_lt_of_le (lx_vB hdd) (Nat.pow_le_pow_right (by decide) (show i ≤ 4 by omega))
                        rw [if_pos (show i ≤ 4 by omega)]
                        exact ⟨(am_ru (by omega) h27), (am_ru (by omega) h28), (am_rs).trans (mt_num hb).1.symm, fun _ => ((am_ru (by omega) (hv (by omega)))).trans (mt_num hb).2.symm⟩
                      · skip
                        have c15n : ¬ i ≤ 4 := fun zz => c15 ((nI_leI (a := i) (b := 4) (by omega) (by omega)).mpr zz)
                        refine ev_iconst (v := (-1)) dX7_next_315 (by decide) ?_
                        refine ev_goto (tgt := 320) dX7_next_316 (by decide) ?_
                        refine ev_putI dX7_next_320 fl_X7_113 rfl rfl (ly_k hI2.ly 65 rfl) ?_
                        refine ev_goto (tgt := 403) dX7_next_323 (by decide) ?_
                        refine ev_retv dX7_next_403 rfl (Nat.zero_le _) (Nat.zero_le _) ?_
                        refine ⟨rfl, (iv_M.sc rfl hI2), (fr_T.wr (by decide) hT2), ?_⟩
                        rw [ht, lx_atD (by omega) hch4 hch13 (hrq.trans (lx_run0 (by omega))), Nat.add_sub_cancel_left]
                        rw [if_neg (show ¬ i ≤ 4 by omega)]
                        exact ⟨(am_ru (by omega) h27), (am_ru (by omega) h28), (am_rs).trans mt_wr.1.symm, fun z => absurd z mt_wr.2⟩
                    · skip
                      have c14n : ¬ (s_tp A) ≤ (a1 + i) := fun zz => c14 ((nI_leI (a := (s_tp A)) (b := (a1 + i)) (by omega) (by omega)).mpr zz)
                      refine ev_aload_n dX7_next_241 rfl rfl ?_
                      refine ev_getR (b := 74) dX7_next_242 fl_X7_34 (ly_k hI2.ly 65 rfl) (ly_r hI2.ly 37 rfl) ?_
                      refine ev_aload_n dX7_next_245 rfl rfl ?_
                      refine ev_getI (v := nI (a1 + i)) dX7_next_246 fl_X7_107 (ly_k hI2.ly 65 rfl) h27 ?_
                      refine ev_iald (v := A 74 (a1 + i)) dX7_next_249 (ly_k hI2.ly 74 rfl) (am_ixn (by omega) (by decide)) (hI2.rd 74 (a1 + i) rfl) ?_
                      refine ev_bipush (v := 48) dX7_next_250 (by decide) ?_
                      refine ev_bipush (v := 57) dX7_next_252 (by decide) ?_
                      refine ev_callS (as := [.int (A 74 (a1 + i)), .int 48, .int 57]) (st := []) dX7_next_254 mfX7_in lk_X7_90 (c_X7_in G D σ2 (A 74 (a1 + i)) 48 57) rfl rfl (Nat.le_of_ble_eq_true rfl) (am_hR (by omega) (by decide)) ⟨Nat.le_refl _, Nat.le_refl _⟩ ?_
                      rintro _ _ (⟨h16, rfl, rfl⟩ | ⟨h16, rfl, rfl⟩)
                      · skip
                        have hch16 := lx_diT h16
                        refine ev_if_eq (tgt := 309) dX7_next_257 (by decide) (fun c => absurd c (by decide)) (fun _ => ?_)
                        refine ev_aload_n dX7_next_260 rfl rfl ?_
                        refine ev_iload_n dX7_next_261 rfl rfl ?_
                        refine ev_iconst (v := 4) dX7_next_262 (by decide) ?_
                        refine ev_icmp_ge (tgt := 289) dX7_next_263 (by decide) (fun c17 => ?_) (fun c17 => ?_)
                        · skip
                          have c17n : 4 ≤ i := (nI_leI (a := 4) (b := i) (by omega) (by omega)).mp c17
                          refine ev_iconst (v := 0) dX7_next_289 (by decide) ?_
                          refine ev_putI dX7_next_290 fl_X7_116 rfl rfl (ly_k hI2.ly 65 rfl) ?_
                          refine ev_iinc (lv' := [(0, .ref 65), (1, .int (A 74 a1)), (2, .int (nI (i + 1)))]) (v := nI (i + 1)) dX7_next_293 rfl (nI_1 _) (by decide) rfl ?_
                          refine ev_aload_n dX7_next_296 rfl rfl ?_
                          refine ev_dup dX7_next_297 rfl ?_
                          refine ev_getI (v := nI (a1 + i)) dX7_next_298 fl_X7_107 (ly_k (iv_M.sc rfl hI2).ly 65 rfl) (am_ru (by omega) h27) ?_
                          refine ev_iconst (v := 1) dX7_next_301 (by decide) ?_
                          refine ev_iadd (v := nI (a1 + i + 1)) dX7_next_302 (nI_1 _) ?_
                          refine ev_putI dX7_next_303 fl_X7_107 rfl rfl (ly_k (iv_M.sc rfl hI2).ly 65 rfl) ?_
                          refine ev_goto (tgt := 230) dX7_next_306 (by decide) ?_
                          exact ih_lr (i + 1) (am_sI (am_sI σ2 65 30 0) 65 27 (nI (a1 + i + 1))) (by omega) (by rw [show a1 + (i + 1) = a1 + i + 1 from rfl, ← lx_runS (by omega) hch16]; exact hrq) (fun j hj => by rcases Nat.lt_or_ge j i with z | z; exact hdd j z; rw [show j = i by omega]; exact hch16) am_rs (am_ru (by omega) (am_ru (by omega) h28)) (fun z => absurd z (by omega)) (iv_M.sc rfl (iv_M.sc rfl hI2)) (fr_T.wr (by decide) (fr_T.wr (by decide) hT2)) (by omega)
                        · skip
                          have c17n : ¬ 4 ≤ i := fun zz => c17 ((nI_leI (a := 4) (b := i) (by omega) (by omega)).mpr zz)
                          refine ev_bipush (v := 10) dX7_next_266 (by decide) ?_
                          refine ev_aload_n dX7_next_268 rfl rfl ?_
                          refine ev_getI (v := nI (lx_v (A 74) a1 i)) dX7_next_269 fl_X7_116 (ly_k hI2.ly 65 rfl) (hv (by omega)) ?_
                          refine ev_imul (v := 10 * nI (lx_v (A 74) a1 i)) dX7_next_272 rfl ?_
                          refine ev_aload_n dX7_next_273 rfl rfl ?_
                          refine ev_getR (b := 74) dX7_next_274 fl_X7_34 (ly_k hI2.ly 65 rfl) (ly_r hI2.ly 37 rfl) ?_
                          refine ev_aload_n dX7_next_277 rfl rfl ?_
                          refine ev_getI (v := nI (a1 + i)) dX7_next_278 fl_X7_107 (ly_k hI2.ly 65 rfl) h27 ?_
                          refine ev_iald (v := A 74 (a1 + i)) dX7_next_281 (ly_k hI2.ly 74 rfl) (am_ixn (by omega) (by decide)) (hI2.rd 74 (a1 + i) rfl) ?_
                          refine ev_iadd (v := 10 * nI (lx_v (A 74) a1 i) + A 74 (a1 + i)) dX7_next_282 rfl ?_
                          refine ev_bipush (v := 48) dX7_next_283 (by decide) ?_
                          refine ev_isub (v := nI (lx_v (A 74) a1 (i + 1))) dX7_next_285 (lx_vS hch16) ?_
                          refine ev_goto (tgt := 290) dX7_next_286 (by decide) ?_
                          refine ev_putI dX7_next_290 fl_X7_116 rfl rfl (ly_k hI2.ly 65 rfl) ?_
                          refine ev_iinc (lv' := [(0, .ref 65), (1, .int (A 74 a1)), (2, .int (nI (i + 1)))]) (v := nI (i + 1)) dX7_next_293 rfl (nI_1 _) (by decide) rfl ?_
                          refine ev_aload_n dX7_next_296 rfl rfl ?_
                          refine ev_dup dX7_next_297 rfl ?_
                          refine ev_getI (v := nI (a1 + i)) dX7_next_298 fl_X7_107 (ly_k (iv_M.sc rfl hI2).ly 65 rfl) (am_ru (by omega) h27) ?_
                          refine ev_iconst (v := 1) dX7_next_301 (by decide) ?_
                          refine ev_iadd (v := nI (a1 + i + 1)) dX7_next_302 (nI_1 _) ?_
                          refine ev_putI dX7_next_303 fl_X7_107 rfl rfl (ly_k (iv_M.sc rfl hI2).ly 65 rfl) ?_
                          refine ev_goto (tgt := 230) dX7_next_306 (by decide) ?_
                          exact ih_lr (i + 1) (am_sI (am_sI σ2 65 30 (nI (lx_v (A 74) a1 (i + 1)))) 65 27 (nI (a1 + i + 1))) (by omega) (by rw [show a1 + (i + 1) = a1 + i + 1 from rfl, ← lx_runS (by omega) hch16]; exact hrq) (fun j hj => by rcases Nat.lt_or_ge j i with z | z; exact hdd j z; rw [show j = i by omega]; exact hch16) am_rs (am_ru (by omega) (am_ru (by omega) h28)) (fun _ => (am_ru (by omega) am_rs)) (iv_M.sc rfl (iv_M.sc rfl hI2)) (fr_T.wr (by decide) (fr_T.wr (by decide) hT2)) (by omega)
                      · skip
                        have hch16 := lx_diF h16
                        refine ev_if_eq (tgt := 309) dX7_next_257 (by decide) (fun _ => ?_) (fun c => absurd (by decide) c)
                        refine ev_aload_n dX7_next_309 rfl rfl ?_
                        refine ev_iload_n dX7_next_310 rfl rfl ?_
                        refine ev_iconst (v := 4) dX7_next_311 (by decide) ?_
                        refine ev_icmp_le (tgt := 319) dX7_next_312 (by decide) (fun c18 => ?_) (fun c18 => ?_)
                        · skip
                          have c18n : i ≤ 4 := (nI_leI (a := i) (b := 4) (by omega) (by omega)).mp c18
                          refine ev_iconst (v := 1) dX7_next_319 (by decide) ?_
                          refine ev_putI dX7_next_320 fl_X7_113 rfl rfl (ly_k hI2.ly 65 rfl) ?_
                          refine ev_goto (tgt := 403) dX7_next_323 (by decide) ?_
                          refine ev_retv dX7_next_403 rfl (Nat.zero_le _) (Nat.zero_le _) ?_
                          refine ⟨rfl, (iv_M.sc rfl hI2), (fr_T.wr (by decide) hT2), ?_⟩
                          rw [ht, lx_atD (by omega) hch4 hch13 (hrq.trans (lx_runE hch16)), Nat.add_sub_cancel_left]
                          have hb : lx_v (A 74) a1 i < 10000 := Nat.lt_of_lt_of_le (lx_vB hdd) (Nat.pow_le_pow_right (by decide) (show i ≤ 4 by omega))
                          rw [if_pos (show i ≤ 4 by omega)]
                          exact ⟨(am_ru (by omega) h27), (am_ru (by omega) h28), (am_rs).trans (mt_num hb).1.symm, fun _ => ((am_ru (by omega) (hv (by omega)))).trans (mt_num hb).2.symm⟩
                        · skip
                          have c18n : ¬ i ≤ 4 := fun zz => c18 ((nI_leI (a := i) (b := 4) (by omega) (by omega)).mpr zz)
                          refine ev_iconst (v := (-1)) dX7_next_315 (by decide) ?_
                          refine ev_goto (tgt := 320) dX7_next_316 (by decide) ?_
                          refine ev_putI dX7_next_320 fl_X7_113 rfl rfl (ly_k hI2.ly 65 rfl) ?_
                          refine ev_goto (tgt := 403) dX7_next_323 (by decide) ?_
                          refine ev_retv dX7_next_403 rfl (Nat.zero_le _) (Nat.zero_le _) ?_
                          refine ⟨rfl, (iv_M.sc rfl hI2), (fr_T.wr (by decide) hT2), ?_⟩
                          rw [ht, lx_atD (by omega) hch4 hch13 (hrq.trans (lx_runE hch16)), Nat.add_sub_cancel_left]
                          rw [if_neg (show ¬ i ≤ 4 by omega)]
                          exact ⟨(am_ru (by omega) h27), (am_ru (by omega) h28), (am_rs).trans mt_wr.1.symm, fun z => absurd z mt_wr.2⟩
                exact lr _ 0 (am_sI (am_sI (am_sI σ1 65 28 (nI a1)) 65 29 0) 65 30 0) (by omega) rfl (fun j hj => absurd hj (Nat.not_lt_zero j)) (am_ru (by omega) (am_ru (by omega) (am_ru (by omega) ha1))) (am_ru (by omega) (am_ru (by omega) am_rs)) (fun _ => am_rs) (iv_M.sc rfl (iv_M.sc rfl (iv_M.sc rfl hI))) (fr_T.wr (by decide) (fr_T.wr (by decide) (fr_T.wr (by decide) hT))) (Nat.lt_succ_self _)
              · skip
                have hch13 := lx_diF h13
                refine ev_if_eq (tgt := 326) dX7_next_225 (by decide) (fun _ => ?_) (fun c => absurd (by decide) c)
                refine ev_iload_n dX7_next_326 rfl rfl ?_
                refine ev_bipush (v := 40) dX7_next_327 (by decide) ?_
                refine ev_icmp_eq (tgt := 374) dX7_next_329 (by decide) (fun c19 => ?_) (fun c19 => ?_)
                · skip
                  refine ev_iconst (v := 1) dX7_next_374 (by decide) ?_
                  refine ev_goto (tgt := 379) dX7_next_375 (by decide) ?_
                  refine ev_istore_n (lv' := [(0, .ref 65), (1, .int (A 74 a1)), (2, .int 1)]) dX7_next_379 rfl (by decide) rfl ?_
                  refine ev_aload_n dX7_next_380 rfl rfl ?_
                  refine ev_iload_n dX7_next_381 rfl rfl ?_
                  refine ev_if_eq (tgt := 389) dX7_next_382 (by decide) (fun c => absurd c (by decide)) (fun _ => ?_)
                  refine ev_iload_n dX7_next_385 rfl rfl ?_
                  refine ev_goto (tgt := 390) dX7_next_386 (by decide) ?_
                  refine ev_putI dX7_next_390 fl_X7_113 rfl rfl (ly_k (iv_M.sc rfl (iv_M.sc rfl (iv_M.sc rfl hI))).ly 65 rfl) ?_
                  refine ev_aload_n dX7_next_393 rfl rfl ?_
                  refine ev_dup dX7_next_394 rfl ?_
                  refine ev_getI (v := nI a1) dX7_next_395 fl_X7_107 (ly_k (iv_M.sc rfl (iv_M.sc rfl (iv_M.sc rfl (iv_M.sc rfl hI)))).ly 65 rfl) (am_ru (by omega) (am_ru (by omega) (am_ru (by omega) (am_ru (by omega) ha1)))) ?_
                  refine ev_iconst (v := 1) dX7_next_398 (by decide) ?_
                  refine ev_iadd (v := nI (a1 + 1)) dX7_next_399 (nI_1 _) ?_
                  refine ev_putI dX7_next_400 fl_X7_107 rfl rfl (ly_k (iv_M.sc rfl (iv_M.sc rfl (iv_M.sc rfl (iv_M.sc rfl hI)))).ly 65 rfl) ?_
                  refine ev_retv dX7_next_403 rfl (Nat.zero_le _) (Nat.zero_le _) ?_
                  refine ⟨rfl, (iv_M.sc rfl (iv_M.sc rfl (iv_M.sc rfl (iv_M.sc rfl (iv_M.sc rfl hI))))), (fr_T.wr (by decide) (fr_T.wr (by decide) (fr_T.wr (by decide) (fr_T.wr (by decide) (fr_T.wr (by decide) hT))))), ?_⟩
                  rw [ht, lx_atS (by omega) hch4 hch13]
                  exact ⟨am_rs, (am_ru (by omega) (am_ru (by omega) (am_ru (by omega) (am_ru (by omega) am_rs)))), ((am_ru (by omega) am_rs)).trans (by rw [mt_sg.1, if_pos (by simp [c19])]), fun z => absurd z mt_sg.2⟩
                · skip
                  refine ev_iload_n dX7_next_332 rfl rfl ?_
                  refine ev_bipush (v := 41) dX7_next_333 (by decide) ?_
                  refine ev_icmp_eq (tgt := 374) dX7_next_335 (by decide) (fun c20 => ?_) (fun c20 => ?_)
                  · skip
                    refine ev_iconst (v := 1) dX7_next_374 (by decide) ?_
                    refine ev_goto (tgt := 379) dX7_next_375 (by decide) ?_
                    refine ev_istore_n (lv' := [(0, .ref 65), (1, .int (A 74 a1)), (2, .int 1)]) dX7_next_379 rfl (by decide) rfl ?_
                    refine ev_aload_n dX7_next_380 rfl rfl ?_
                    refine ev_iload_n dX7_next_381 rfl rfl ?_
                    refine ev_if_eq (tgt := 389) dX7_next_382 (by decide) (fun c => absurd c (by decide)) (fun _ => ?_)
                    refine ev_iload_n dX7_next_385 rfl rfl ?_
                    refine ev_goto (tgt := 390) dX7_next_386 (by decide) ?_
                    refine ev_putI dX7_next_390 fl_X7_113 rfl rfl (ly_k (iv_M.sc rfl (iv_M.sc rfl (iv_M.sc rfl hI))).ly 65 rfl) ?_
                    refine ev_aload_n dX7_next_393 rfl rfl ?_
                    refine ev_dup dX7_next_394 rfl ?_
                    refine ev_getI (v := nI a1) dX7_next_395 fl_X7_107 (ly_k (iv_M.sc rfl (iv_M.sc rfl (iv_M.sc rfl (iv_M.sc rfl hI)))).ly 65 rfl) (am_ru (by omega) (am_ru (by omega) (am_ru (by omega) (am_ru (by omega) ha1)))) ?_
                    refine ev_iconst (v := 1) dX7_next_398 (by decide) ?_
                    refine ev_iadd (v := nI (a1 + 1)) dX7_next_399 (nI_1 _) ?_
                    refine ev_putI dX7_next_400 fl_X7_107 rfl rfl (ly_k (iv_M.sc rfl (iv_M.sc rfl (iv_M.sc rfl (iv_M.sc rfl hI)))).ly 65 rfl) ?_
                    refine ev_retv dX7_next_403 rfl (Nat.zero_le _) (Nat.zero_le _) ?_
                    refine ⟨rfl, (iv_M.sc rfl (iv_M.sc rfl (iv_M.sc rfl (iv_M.sc rfl (iv_M.sc rfl hI))))), (fr_T.wr (by decide) (fr_T.wr (by decide) (fr_T.wr (by decide) (fr_T.wr (by decide) (fr_T.wr (by decide) hT))))), ?_⟩
                    rw [ht, lx_atS (by omega) hch4 hch13]
                    exact ⟨am_rs, (am_ru (by omega) (am_ru (by omega) (am_ru (by omega) (am_ru (by omega) am_rs)))), ((am_ru (by omega) am_rs)).trans (by rw [mt_sg.1, if_pos (by simp [c20])]), fun z => absurd z mt_sg.2⟩
                  · skip
                    refine ev_iload_n dX7_next_338 rfl rfl ?_
                    refine ev_bipush (v := 59) dX7_next_339 (by decide) ?_
                    refine ev_icmp_eq (tgt := 374) dX7_next_341 (by decide) (fun c21 => ?_) (fun c21 => ?_)
                    · skip
                      refine ev_iconst (v := 1) dX7_next_374 (by decide) ?_
                      refine ev_goto (tgt := 379) dX7_next_375 (by decide) ?_
                      refine ev_istore_n (lv' := [(0, .ref 65), (1, .int (A 74 a1)), (2, .int 1)]) dX7_next_379 rfl (by decide) rfl ?_
                      refine ev_aload_n dX7_next_380 rfl rfl ?_
                      refine ev_iload_n dX7_next_381 rfl rfl ?_
                      refine ev_if_eq (tgt := 389) dX7_next_382 (by decide) (fun c => absurd c (by decide)) (fun _ => ?_)
                      refine ev_iload_n dX7_next_385 rfl rfl ?_
                      refine ev_goto (tgt := 390) dX7_next_386 (by decide) ?_
                      refine ev_putI dX7_next_390 fl_X7_113 rfl rfl (ly_k (iv_M.sc rfl (iv_M.sc rfl (iv_M.sc rfl hI))).ly 65 rfl) ?_
                      refine ev_aload_n dX7_next_393 rfl rfl ?_
                      refine ev_dup dX7_next_394 rfl ?_
                      refine ev_getI (v := nI a1) dX7_next_395 fl_X7_107 (ly_k (iv_M.sc rfl (iv_M.sc rfl (iv_M.sc rfl (iv_M.sc rfl hI)))).ly 65 rfl) (am_ru (by omega) (am_ru (by omega) (am_ru (by omega) (am_ru (by omega) ha1)))) ?_
                      refine ev_iconst (v := 1) dX7_next_398 (by decide) ?_
                      refine ev_iadd (v := nI (a1 + 1)) dX7_next_399 (nI_1 _) ?_
                      refine ev_putI dX7_next_400 fl_X7_107 rfl rfl (ly_k (iv_M.sc rfl (iv_M.sc rfl (iv_M.sc rfl (iv_M.sc rfl hI)))).ly 65 rfl) ?_
                      refine ev_retv dX7_next_403 rfl (Nat.zero_le _) (Nat.zero_le _) ?_
                      refine ⟨rfl, (iv_M.sc rfl (iv_M.sc rfl (iv_M.sc rfl (iv_M.sc rfl (iv_M.sc rfl hI))))), (fr_T.wr (by decide) (fr_T.wr (by decide) (fr_T.wr (by decide) (fr_T.wr (by decide) (fr_T.wr (by decide) hT))))), ?_⟩
                      rw [ht, lx_atS (by omega) hch4 hch13]
                      exact ⟨am_rs, (am_ru (by omega) (am_ru (by omega) (am_ru (by omega) (am_ru (by omega) am_rs)))), ((am_ru (by omega) am_rs)).trans (by rw [mt_sg.1, if_pos (by simp [c21])]), fun z => absurd z mt_sg.2⟩
                    · skip
                      refine ev_iload_n dX7_next_344 rfl rfl ?_
                      refine ev_bipush (v := 43) dX7_next_345 (by decide) ?_
                      refine ev_icmp_eq (tgt := 374) dX7_next_347 (by decide) (fun c22 => ?_) (fun c22 => ?_)
                      · skip
                        refine ev_iconst (v := 1) dX7_next_374 (by decide) ?_
                        refine ev_goto (tgt := 379) dX7_next_375 (by decide) ?_
                        refine ev_istore_n (lv' := [(0, .ref 65), (1, .int (A 74 a1)), (2, .int 1)]) dX7_next_379 rfl (by decide) rfl ?_
                        refine ev_aload_n dX7_next_380 rfl rfl ?_
                        refine ev_iload_n dX7_next_381 rfl rfl ?_
                        refine ev_if_eq (tgt := 389) dX7_next_382 (by decide) (fun c => absurd c (by decide)) (fun _ => ?_)
                        refine ev_iload_n dX7_next_385 rfl rfl ?_
                        refine ev_goto (tgt := 390) dX7_next_386 (by decide) ?_
                        refine ev_putI dX7_next_390 fl_X7_113 rfl rfl (ly_k (iv_M.sc rfl (iv_M.sc rfl (iv_M.sc rfl hI))).ly 65 rfl) ?_
                        refine ev_aload_n dX7_next_393 rfl rfl ?_
                        refine ev_dup dX7_next_394 rfl ?_
                        refine ev_getI (v := nI a1) dX7_next_395 fl_X7_107 (ly_k (iv_M.sc rfl (iv_M.sc rfl (iv_M.sc rfl (iv_M.sc rfl hI)))).ly 65 rfl) (am_ru (by omega) (am_ru (by omega) (am_ru (by omega) (am_ru (by omega) ha1)))) ?_
                        refine ev_iconst (v := 1) dX7_next_398 (by decide) ?_
                        refine ev_iadd (v := nI (a1 + 1)) dX7_next_399 (nI_1 _) ?_
                        refine ev_putI dX7_next_400 fl_X7_107 rfl rfl (ly_k (iv_M.sc rfl (iv_M.sc rfl (iv_M.sc rfl (iv_M.sc rfl hI)))).ly 65 rfl) ?_
                        refine ev_retv dX7_next_403 rfl (Nat.zero_le _) (Nat.zero_le _) ?_
                        refine ⟨rfl, (iv_M.sc rfl (iv_M.sc rfl (iv_M.sc rfl (iv_M.sc rfl (iv_M.sc rfl hI))))), (fr_T.wr (by decide) (fr_T.wr (by decide) (fr_T.wr (by decide) (fr_T.wr (by decide) (fr_T.wr (by decide) hT))))), ?_⟩
                        rw [ht, lx_atS (by omega) hch4 hch13]
                        exact ⟨am_rs, (am_ru (by omega) (am_ru (by omega) (am_ru (by omega) (am_ru (by omega) am_rs)))), ((am_ru (by omega) am_rs)).trans (by rw [mt_sg.1, if_pos (by simp [c22])]), fun z => absurd z mt_sg.2⟩
                      · skip
                        refine ev_iload_n dX7_next_350 rfl rfl ?_
                        refine ev_bipush (v := 45) dX7_next_351 (by decide) ?_
                        refine ev_icmp_eq (tgt := 374) dX7_next_353 (by decide) (fun c23 => ?_) (fun c23 => ?_)
                        · skip
                          refine ev_iconst (v := 1) dX7_next_374 (by decide) ?_
                          refine ev_goto (tgt := 379) dX7_next_375 (by decide) ?_
                          refine ev_istore_n (lv' := [(0, .ref 65), (1, .int (A 74 a1)), (2, .int 1)]) dX7_next_379 rfl (by decide) rfl ?_
                          refine ev_aload_n dX7_next_380 rfl rfl ?_
                          refine ev_iload_n dX7_next_381 rfl rfl ?_
                          refine ev_if_eq (tgt := 389) dX7_next_382 (by decide) (fun c => absurd c (by decide)) (fun _ => ?_)
                          refine ev_iload_n dX7_next_385 rfl rfl ?_
                          refine ev_goto (tgt := 390) dX7_next_386 (by decide) ?_
                          refine ev_putI dX7_next_390 fl_X7_113 rfl rfl (ly_k (iv_M.sc rfl (iv_M.sc rfl (iv_M.sc rfl hI))).ly 65 rfl) ?_
                          refine ev_aload_n dX7_next_393 rfl rfl ?_
                          refine ev_dup dX7_next_394 rfl ?_
                          refine ev_getI (v := nI a1) dX7_next_395 fl_X7_107 (ly_k (iv_M.sc rfl (iv_M.sc rfl (iv_M.sc rfl (iv_M.sc rfl hI)))).ly 65 rfl) (am_ru (by omega) (am_ru (by omega) (am_ru (by omega) (am_ru (by omega) ha1)))) ?_
                          refine ev_iconst (v := 1) dX7_next_398 (by decide) ?_
                          refine ev_iadd (v := nI (a1 + 1)) dX7_next_399 (nI_1 _) ?_
                          refine ev_putI dX7_next_400 fl_X7_107 rfl rfl (ly_k (iv_M.sc rfl (iv_M.sc rfl (iv_M.sc rfl (iv_M.sc rfl hI)))).ly 65 rfl) ?_
                          refine ev_retv dX7_next_403 rfl (Nat.zero_le _) (Nat.zero_le _) ?_
                          refine ⟨rfl, (iv_M.sc rfl (iv_M.sc rfl (iv_M.sc rfl (iv_M.sc rfl (iv_M.sc rfl hI))))), (fr_T.wr (by decide) (fr_T.wr (by decide) (fr_T.wr (by decide) (fr_T.wr (by decide) (fr_T.wr (by decide) hT))))), ?_⟩
                          rw [ht, lx_atS (by omega) hch4 hch13]
                          exact ⟨am_rs, (am_ru (by omega) (am_ru (by omega) (am_ru (by omega) (am_ru (by omega) am_rs)))), ((am_ru (by omega) am_rs)).trans (by rw [mt_sg.1, if_pos (by simp [c23])]), fun z => absurd z mt_sg.2⟩
                        · skip
                          refine ev_iload_n dX7_next_356 rfl rfl ?_
                          refine ev_bipush (v := 42) dX7_next_357 (by decide) ?_
                          refine ev_icmp_eq (tgt := 374) dX7_next_359 (by decide) (fun c24 => ?_) (fun c24 => ?_)
                          · skip
                            refine ev_iconst (v := 1) dX7_next_374 (by decide) ?_
                            refine ev_goto (tgt := 379) dX7_next_375 (by decide) ?_
                            refine ev_istore_n (lv' := [(0, .ref 65), (1, .int (A 74 a1)), (2, .int 1)]) dX7_next_379 rfl (by decide) rfl ?_
                            refine ev_aload_n dX7_next_380 rfl rfl ?_
                            refine ev_iload_n dX7_next_381 rfl rfl ?_
                            refine ev_if_eq (tgt := 389) dX7_next_382 (by decide) (fun c => absurd c (by decide)) (fun _ => ?_)
                            refine ev_iload_n dX7_next_385 rfl rfl ?_
                            refine ev_goto (tgt := 390) dX7_next_386 (by decide) ?_
                            refine ev_putI dX7_next_390 fl_X7_113 rfl rfl (ly_k (iv_M.sc rfl (iv_M.sc rfl (iv_M.sc rfl hI))).ly 65 rfl) ?_
                            refine ev_aload_n dX7_next_393 rfl rfl ?_
                            refine ev_dup dX7_next_394 rfl ?_
                            refine ev_getI (v := nI a1) dX7_next_395 fl_X7_107 (ly_k (iv_M.sc rfl (iv_M.sc rfl (iv_M.sc rfl (iv_M.sc rfl hI)))).ly 65 rfl) (am_ru (by omega) (am_ru (by omega) (am_ru (by omega) (am_ru (by omega) ha1)))) ?_
                            refine ev_iconst (v := 1) dX7_next_398 (by decide) ?_
                            refine ev_iadd (v := nI (a1 + 1)) dX7_next_399 (nI_1 _) ?_
                            refine ev_putI dX7_next_400 fl_X7_107 rfl rfl (ly_k (iv_M.sc rfl (iv_M.sc rfl (iv_M.sc rfl (iv_M.sc rfl hI)))).ly 65 rfl) ?_
                            refine ev_retv dX7_next_403 rfl (Nat.zero_le _) (Nat.zero_le _) ?_
                            refine ⟨rfl, (iv_M.sc rfl (iv_M.sc rfl (iv_M.sc rfl (iv_M.sc rfl (iv_M.sc rfl hI))))), (fr_T.wr (by decide) (fr_T.wr (by decide) (fr_T.wr (by decide) (fr_T.wr (by decide) (fr_T.wr (by decide) hT))))), ?_⟩
                            rw [ht, lx_atS (by omega) hch4 hch13]
                            exact ⟨am_rs, (am_ru (by omega) (am_ru (by omega) (am_ru (by omega) (am_ru (by omega) am_rs)))), ((am_ru (by omega) am_rs)).trans (by rw [mt_sg.1, if_pos (by simp [c24])]), fun z => absurd z mt_sg.2⟩
                          · skip
                            refine ev_iload_n dX7_next_362 rfl rfl ?_
                            refine ev_bipush (v := 60) dX7_next_363 (by decide) ?_
                            refine ev_icmp_eq (tgt := 374) dX7_next_365 (by decide) (fun c25 => ?_) (fun c25 => ?_)
                            · skip
                              refine ev_iconst (v := 1) dX7_next_374 (by decide) ?_
                              refine ev_goto (tgt := 379) dX7_next_375 (by decide) ?_
                              refine ev_istore_n (lv' := [(0, .ref 65), (1, .int (A 74 a1)), (2, .int 1)]) dX7_next_379 rfl (by decide) rfl ?_
                              refine ev_aload_n dX7_next_380 rfl rfl ?_
                              refine ev_iload_n dX7_next_381 rfl rfl ?_
                              refine ev_if_eq (tgt := 389) dX7_next_382 (by decide) (fun c => absurd c (by decide)) (fun _ => ?_)
                              refine ev_iload_n dX7_next_385 rfl rfl ?_
                              refine ev_goto (tgt := 390) dX7_next_386 (by decide) ?_
                              refine ev_putI dX7_next_390 fl_X7_113 rfl rfl (ly_k (iv_M.sc rfl (iv_M.sc rfl (iv_M.sc rfl hI))).ly 65 rfl) ?_
                              refine ev_aload_n dX7_next_393 rfl rfl ?_
                              refine ev_dup dX7_next_394 rfl ?_
                              refine ev_getI (v := nI a1) dX7_next_395 fl_X7_107 (ly_k (iv_M.sc rfl (iv_M.sc rfl (iv_M.sc rfl (iv_M.sc rfl hI)))).ly 65 rfl) (am_ru (by omega) (am_ru (by omega) (am_ru (by omega) (am_ru (by omega) ha1)))) ?_
                              refine ev_iconst (v := 1) dX7_next_398 (by decide) ?_
                              refine ev_iadd (v := nI (a1 + 1)) dX7_next_399 (nI_1 _) ?_
                              refine ev_putI dX7_next_400 fl_X7_107 rfl rfl (ly_k (iv_M.sc rfl (iv_M.sc rfl (iv_M.sc rfl (iv_M.sc rfl hI)))).ly 65 rfl) ?_
                              refine ev_retv dX7_next_403 rfl (Nat.zero_le _) (Nat.zero_le _) ?_
                              refine ⟨rfl, (iv_M.sc rfl (iv_M.sc rfl (iv_M.sc rfl (iv_M.sc rfl (iv_M.sc rfl hI))))), (fr_T.wr (by decide) (fr_T.wr (by decide) (fr_T.wr (by decide) (fr_T.wr (by decide) (fr_T.wr (by decide) hT))))), ?_⟩
                              rw [ht, lx_atS (by omega) hch4 hch13]
                              exact ⟨am_rs, (am_ru (by omega) (am_ru (by omega) (am_ru (by omega) (am_ru (by omega) am_rs)))), ((am_ru (by omega) am_rs)).trans (by rw [mt_sg.1, if_pos (by simp [c25])]), fun z => absurd z mt_sg.2⟩
                            · skip
                              refine ev_iload_n dX7_next_368 rfl rfl ?_
                              refine ev_bipush (v := 61) dX7_next_369 (by decide) ?_
                              refine ev_icmp_ne (tgt := 378) dX7_next_371 (by decide) (fun c26 => ?_) (fun c26 => ?_)
                              · skip
                                refine ev_iconst (v := 0) dX7_next_378 (by decide) ?_
                                refine ev_istore_n (lv' := [(0, .ref 65), (1, .int (A 74 a1)), (2, .int 0)]) dX7_next_379 rfl (by decide) rfl ?_
                                refine ev_aload_n dX7_next_380 rfl rfl ?_
                                refine ev_iload_n dX7_next_381 rfl rfl ?_
                                refine ev_if_eq (tgt := 389) dX7_next_382 (by decide) (fun _ => ?_) (fun c => absurd (by decide) c)
                                refine ev_iconst (v := (-1)) dX7_next_389 (by decide) ?_
                                refine ev_putI dX7_next_390 fl_X7_113 rfl rfl (ly_k (iv_M.sc rfl (iv_M.sc rfl (iv_M.sc rfl hI))).ly 65 rfl) ?_
                                refine ev_aload_n dX7_next_393 rfl rfl ?_
                                refine ev_dup dX7_next_394 rfl ?_
                                refine ev_getI (v := nI a1) dX7_next_395 fl_X7_107 (ly_k (iv_M.sc rfl (iv_M.sc rfl (iv_M.sc rfl (iv_M.sc rfl hI)))).ly 65 rfl) (am_ru (by omega) (am_ru (by omega) (am_ru (by omega) (am_ru (by omega) ha1)))) ?_
                                refine ev_iconst (v := 1) dX7_next_398 (by decide) ?_
                                refine ev_iadd (v := nI (a1 + 1)) dX7_next_399 (nI_1 _) ?_
                                refine ev_putI dX7_next_400 fl_X7_107 rfl rfl (ly_k (iv_M.sc rfl (iv_M.sc rfl (iv_M.sc rfl (iv_M.sc rfl hI)))).ly 65 rfl) ?_
                                refine ev_retv dX7_next_403 rfl (Nat.zero_le _) (Nat.zero_le _) ?_
                                refine ⟨rfl, (iv_M.sc rfl (iv_M.sc rfl (iv_M.sc rfl (iv_M.sc rfl (iv_M.sc rfl hI))))), (fr_T.wr (by decide) (fr_T.wr (by decide) (fr_T.wr (by decide) (fr_T.wr (by decide) (fr_T.wr (by decide) hT))))), ?_⟩
                                rw [ht, lx_atS (by omega) hch4 hch13]
                                exact ⟨am_rs, (am_ru (by omega) (am_ru (by omega) (am_ru (by omega) (am_ru (by omega) am_rs)))), ((am_ru (by omega) am_rs)).trans (by rw [mt_sg.1, if_neg (by simp [c19, c20, c21, c22, c23, c24, c25, c26])]), fun z => absurd z mt_sg.2⟩
                              · skip
                                refine ev_iconst (v := 1) dX7_next_374 (by decide) ?_
                                refine ev_goto (tgt := 379) dX7_next_375 (by decide) ?_
                                refine ev_istore_n (lv' := [(0, .ref 65), (1, .int (A 74 a1)), (2, .int 1)]) dX7_next_379 rfl (by decide) rfl ?_
                                refine ev_aload_n dX7_next_380 rfl rfl ?_
                                refine ev_iload_n dX7_next_381 rfl rfl ?_
                                refine ev_if_eq (tgt := 389) dX7_next_382 (by decide) (fun c => absurd c (by decide)) (fun _ => ?_)
                                refine ev_iload_n dX7_next_385 rfl rfl ?_
                                refine ev_goto (tgt := 390) dX7_next_386 (by decide) ?_
                                refine ev_putI dX7_next_390 fl_X7_113 rfl rfl (ly_k (iv_M.sc rfl (iv_M.sc rfl (iv_M.sc rfl hI))).ly 65 rfl) ?_
                                refine ev_aload_n dX7_next_393 rfl rfl ?_
                                refine ev_dup dX7_next_394 rfl ?_
                                refine ev_getI (v := nI a1) dX7_next_395 fl_X7_107 (ly_k (iv_M.sc rfl (iv_M.sc rfl (iv_M.sc rfl (iv_M.sc rfl hI)))).ly 65 rfl) (am_ru (by omega) (am_ru (by omega) (am_ru (by omega) (am_ru (by omega) ha1)))) ?_
                                refine ev_iconst (v := 1) dX7_next_398 (by decide) ?_
                                refine ev_iadd (v := nI (a1 + 1)) dX7_next_399 (nI_1 _) ?_
                                refine ev_putI dX7_next_400 fl_X7_107 rfl rfl (ly_k (iv_M.sc rfl (iv_M.sc rfl (iv_M.sc rfl (iv_M.sc rfl hI)))).ly 65 rfl) ?_
                                refine ev_retv dX7_next_403 rfl (Nat.zero_le _) (Nat.zero_le _) ?_
                                refine ⟨rfl, (iv_M.sc rfl (iv_M.sc rfl (iv_M.sc rfl (iv_M.sc rfl (iv_M.sc rfl hI))))), (fr_T.wr (by decide) (fr_T.wr (by decide) (fr_T.wr (by decide) (fr_T.wr (by decide) (fr_T.wr (by decide) hT))))), ?_⟩
                                rw [ht, lx_atS (by omega) hch4 hch13]
                                exact ⟨am_rs, (am_ru (by omega) (am_ru (by omega) (am_ru (by omega) (am_ru (by omega) am_rs)))), ((am_ru (by omega) am_rs)).trans (by rw [mt_sg.1, if_pos (by simp [c26])]), fun z => absurd z mt_sg.2⟩
          · skip
            refine ev_aload_n dX7_next_39 rfl rfl ?_
            refine ev_dup dX7_next_40 rfl ?_
            refine ev_getI (v := nI a1) dX7_next_41 fl_X7_107 (ly_k hI.ly 65 rfl) ha1 ?_
            refine ev_iconst (v := 1) dX7_next_44 (by decide) ?_
            refine ev_iadd (v := nI (a1 + 1)) dX7_next_45 (nI_1 _) ?_
            refine ev_putI dX7_next_46 fl_X7_107 rfl rfl (ly_k hI.ly 65 rfl) ?_
            refine ev_goto (tgt := 0) dX7_next_49 (by decide) ?_
            exact ih (a1 + 1) (am_sI σ1 65 27 (nI (a1 + 1))) (by omega) am_rs (by rw [← lx_runS (by omega) (lx_blT (Or.inr c3))]; exact hr) (iv_M.sc rfl hI) (fr_T.wr (by decide) hT) (by omega)
  exact lp _ a σ hn ha rfl hI fr_T.rf (Nat.lt_succ_self _)

