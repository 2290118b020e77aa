/-! the reference: depth, laws, film, lots -/
def am_qW (A : am_S) (v : Value) (σ0 : am_M) : Option Value → am_M → Prop := fun r σ' => r = some v ∧ iv_M A σ' ∧ fr_W σ0 σ'
theorem s_wn3 (A : am_S) : s_wn A < 3 := by
  unfold s_wn
  split <;> (try split) <;> decide
theorem s_odY {A : am_S} {x : Int32} {T k : Nat} (h : s_wb A (x + nI k) = T) : lN (s_od A x T k) + 1 = lN (s_od A x T (k + 1)) := by
  rw [lN_1]
  show _ = lN (s_od A x T k + if s_wb A (x + nI k) = T then 1 else 0)
  rw [if_pos h]
theorem s_odN {A : am_S} {x : Int32} {T k : Nat} (h : ¬ s_wb A (x + nI k) = T) : lN (s_od A x T k) + 0 = lN (s_od A x T (k + 1)) := by
  show _ = lN (s_od A x T k + if s_wb A (x + nI k) = T then 1 else 0)
  rw [if_neg h]
  exact Int64.add_zero _
theorem s_odle {A : am_S} {x : Int32} {T : Nat} : ∀ k, s_od A x T k ≤ k
  | 0 => Nat.le_refl _
  | k + 1 => by
    have := s_odle (A := A) (x := x) (T := T) k
    show s_od A x T k + (if s_wb A (x + nI k) = T then 1 else 0) ≤ k + 1
    split <;> omega
theorem am_130 {n : Int32} (h : 1 ≤ n ∧ n ≤ 30) : ∃ j, 1 ≤ j ∧ j ≤ 30 ∧ n = nI j := by
  obtain ⟨j, hj, rfl⟩ := (am_rgl (n := 31) (c := 30) (by decide)).mp ⟨Int32.le_trans (by decide) h.1, h.2⟩
  exact ⟨j, (nI_leI (a := 1) (b := j) (by decide) (by omega)).mp h.1, by omega, rfl⟩
set_option maxHeartbeats 400000 in
set_option maxRecDepth 100000 in
theorem c_X7_depth (G : am_G) (D : Nat) (A : am_S) (σ : am_M) (hA : wf_A A) (hI : iv_M A σ) (s p i : Int32) : am_Mt G (D + 7) mX7_depth [.ref 65, .int s, .int p, .int i] σ 0 0 (am_qM A (.int (sp_depth A s p i)) σ) := by
  have b7 := wf_np7 hA
  have b8 := wf_nq8 hA
  have b6 := wf_nt6 hA
  have b61 := wf_nt1 hA
  have b160 := wf_tp160 hA
  have brl := wf_rlt hA
  refine am_of moX7_depth (Nat.le_of_ble_eq_true rfl) ?_
  show am_Ev G mX7_depth (am_R (D + 7) 0 0) 0 0 (am_qM A (.int (sp_depth A s p i)) σ) 0 [(0, .ref 65), (1, .int s), (2, .int p), (3, .int i)] [] σ 0 0
  refine ev_aload_n dX7_depth_0 rfl rfl ?_
  refine ev_iload_n dX7_depth_1 rfl rfl ?_
  refine ev_callV (as := [.int s]) (st := []) dX7_depth_2 mfX7_sheetWrong lk_X7_254 (ly_k hI.ly 65 rfl) (by decide) rfl (c_X7_sheetWrong G (D + 5) A σ hA hI s) rfl rfl (Nat.le_of_ble_eq_true rfl) (am_hR (by omega) (by decide)) ⟨Nat.le_refl _, Nat.le_refl _⟩ ?_
  rintro _ _ ⟨rfl, rfl⟩
  refine ev_istore (lv' := [(0, .ref 65), (1, .int s), (2, .int p), (3, .int i), (4, .int (s_wr A s))]) dX7_depth_5 (by decide) rfl ?_
  refine ev_iload dX7_depth_7 rfl ?_
  refine ev_if_eq (tgt := 15) dX7_depth_9 (by decide) (fun c1 => ?_) (fun c1 => ?_)
  · skip
    obtain ⟨js, hjs, rfl⟩ := s_wr0 c1
    refine ev_aload_n dX7_depth_15 rfl rfl ?_
    refine ev_iload_n dX7_depth_16 rfl rfl ?_
    refine ev_callV (as := [.int p]) (st := []) dX7_depth_17 mfX7_isOne lk_X7_177 (ly_k hI.ly 65 rfl) (by decide) rfl (c_X7_isOne G (D + 5) A σ hA hI p) rfl rfl (Nat.le_of_ble_eq_true rfl) (am_hR (by omega) (by decide)) ⟨Nat.le_refl _, Nat.le_refl _⟩ ?_
    rintro _ _ (⟨⟨j2, h2, rfl⟩, rfl, rfl⟩ | ⟨h2, rfl, rfl⟩)
    · skip
      refine ev_if_eq (tgt := 33) dX7_depth_20 (by decide) (fun c => absurd c (by decide)) (fun _ => ?_)
      refine ev_aload_n dX7_depth_23 rfl rfl ?_
      refine ev_getR (b := 69) dX7_depth_24 fl_X7_19 (ly_k hI.ly 65 rfl) (ly_r hI.ly 32 rfl) ?_
      refine ev_iload_n dX7_depth_27 rfl rfl ?_
      refine ev_iald (v := A 69 j2) dX7_depth_28 (ly_k hI.ly 69 rfl) (am_ixn (by omega) (by decide)) (hI.rd 69 j2 rfl) ?_
      refine ev_iconst (v := (-1)) dX7_depth_29 (by decide) ?_
      refine ev_icmp_ne (tgt := 36) dX7_depth_30 (by decide) (fun c3 => ?_) (fun c3 => ?_)
      · skip
        obtain ⟨T, hT, eT⟩ := (wf_pp hA j2 h2).2.2.2.1.resolve_left c3
        refine ev_iload_n dX7_depth_36 rfl rfl ?_
        refine ev_iconst (v := 0) dX7_depth_37 (by decide) ?_
        refine ev_iconst (v := 3) dX7_depth_38 (by decide) ?_
        refine ev_callS (as := [.int i, .int 0, .int 3]) (st := []) dX7_depth_39 mfX7_in lk_X7_90 (c_X7_in G (D + 6) σ i 0 3) rfl rfl (Nat.le_of_ble_eq_true rfl) (am_hR (by omega) (by decide)) ⟨Nat.le_refl _, Nat.le_refl _⟩ ?_
        rintro _ _ (⟨h4, rfl, rfl⟩ | ⟨h4, rfl, rfl⟩)
        · skip
          obtain ⟨ji, hji, rfl⟩ := (am_rgl (n := 4) (by decide)).mp h4
          refine ev_if_ne (tgt := 48) dX7_depth_42 (by decide) (fun _ => ?_) (fun c => absurd c (by decide))
          refine ev_aload_n dX7_depth_48 rfl rfl ?_
          refine ev_getR (b := 70) dX7_depth_49 fl_X7_22 (ly_k hI.ly 65 rfl) (ly_r hI.ly 33 rfl) ?_
          refine ev_iconst (v := 4) dX7_depth_52 (by decide) ?_
          refine ev_iload_n dX7_depth_53 rfl rfl ?_
          refine ev_imul (v := nI (4 * j2)) dX7_depth_54 (pk_mul 4 j2) ?_
          refine ev_iload_n dX7_depth_55 rfl rfl ?_
          refine ev_iadd (v := nI (4 * j2 + ji)) dX7_depth_56 (nI_add (4 * j2) ji) ?_
          refine ev_iald (v := A 70 (4 * j2 + ji)) dX7_depth_57 (ly_k hI.ly 70 rfl) (am_ixn (by omega) (by decide)) (hI.rd 70 (4 * j2 + ji) rfl) ?_
          refine ev_istore (lv' := [(0, .ref 65), (1, .int (nI js)), (2, .int (nI j2)), (3, .int (nI ji)), (4, .int (s_wr A (nI js))), (5, .int (A 70 (4 * j2 + ji)))]) dX7_depth_58 (by decide) rfl ?_
          refine ev_iconst (v := 0) dX7_depth_60 (by decide) ?_
          refine ev_istore (lv' := [(0, .ref 65), (1, .int (nI js)), (2, .int (nI j2)), (3, .int (nI ji)), (4, .int (s_wr A (nI js))), (5, .int (A 70 (4 * j2 + ji))), (6, .int 0)]) dX7_depth_61 (by decide) rfl ?_
          refine ev_iconst (v := 0) dX7_depth_63 (by decide) ?_
          refine ev_istore (lv' := [(0, .ref 65), (1, .int (nI js)), (2, .int (nI j2)), (3, .int (nI ji)), (4, .int (s_wr A (nI js))), (5, .int (A 70 (4 * j2 + ji))), (6, .int 0), (7, .int 0)]) dX7_depth_64 (by decide) rfl ?_
          have lp : ∀ (f : Nat) (d : Nat) (x : Int32) (σ1 : am_M), (d ≤ 10) → (am_rg x 10) → (iv_M (am_up A 70 (4 * j2 + ji) x) σ1) → (fr_M σ σ1) → 10 - d < f → am_Ev G mX7_depth (am_R (D + 7) 0 0) 0 0 (am_qM A (.int (sp_depth A (nI js) (nI j2) (nI ji))) σ) 66 [(0, .ref 65), (1, .int (nI js)), (2, .int (nI j2)), (3, .int (nI ji)), (4, .int (s_wr A (nI js))), (5, .int (A 70 (4 * j2 + ji))), (6, .int (nI (mk_m (fun d => decide (s_ul (s_dd A j2 ji d) js (s_se A T) = none)) d))), (7, .int (nI d))] [] σ1 0 0 := by
            intro f
            induction f with
            | zero => intro d x σ1 hd hx hI hF hf; exact absurd hf (Nat.not_lt_zero _)
            | succ f ih =>
              intro d x σ1 hd hx hI hF hf
              refine ev_iload dX7_depth_66 rfl ?_
              refine ev_bipush (v := 9) dX7_depth_68 (by decide) ?_
              refine ev_icmp_gt (tgt := 119) dX7_depth_70 (by decide) (fun c5 => ?_) (fun c5 => ?_)
              · skip
                have c5n : 9 < d := (nI_ltI (a := 9) (b := d) (by omega) (by omega)).mp c5
                refine ev_aload_n dX7_depth_119 rfl rfl ?_
                refine ev_getR (b := 70) dX7_depth_120 fl_X7_22 (ly_k hI.ly 65 rfl) (ly_r hI.ly 33 rfl) ?_
                refine ev_iconst (v := 4) dX7_depth_123 (by decide) ?_
                refine ev_iload_n dX7_depth_124 rfl rfl ?_
                refine ev_imul (v := nI (4 * j2)) dX7_depth_125 (pk_mul 4 j2) ?_
                refine ev_iload_n dX7_depth_126 rfl rfl ?_
                refine ev_iadd (v := nI (4 * j2 + ji)) dX7_depth_127 (nI_add (4 * j2) ji) ?_
                refine ev_iload dX7_depth_128 rfl ?_
                refine ev_iast dX7_depth_130 (ly_k hI.ly 70 rfl) (am_ixn (by omega) (by decide)) ?_
                refine ev_iload dX7_depth_131 rfl ?_
                refine ev_reti dX7_depth_133 rfl (Nat.zero_le _) (Nat.zero_le _) ?_
                have e : d = 10 := by omega
                subst e
                refine ⟨?_, iv_M.cg (iv_M.up hI) (fun _ _ _ => by rw [am_rest]), (fr_M.wr (by decide) hF)⟩
                simp [sp_depth, c1, sN_n (show js < 2 ^ 31 by omega), am_inN h2 (by omega), sN_n (show j2 < 2 ^ 31 by omega), am_inN hji (by omega), sN_n (show ji < 2 ^ 31 by omega), eT, sN_n (show T < 2 ^ 31 by omega), s_bi_n (show T < 2 ^ 31 by omega)]
              · skip
                have c5n : ¬ 9 < d := fun zz => c5 ((nI_ltI (a := 9) (b := d) (by omega) (by omega)).mpr zz)
                refine ev_aload_n dX7_depth_73 rfl rfl ?_
                refine ev_getR (b := 70) dX7_depth_74 fl_X7_22 (ly_k hI.ly 65 rfl) (ly_r hI.ly 33 rfl) ?_
                refine ev_iconst (v := 4) dX7_depth_77 (by decide) ?_
                refine ev_iload_n dX7_depth_78 rfl rfl ?_
                refine ev_imul (v := nI (4 * j2)) dX7_depth_79 (pk_mul 4 j2) ?_
                refine ev_iload_n dX7_depth_80 rfl rfl ?_
                refine ev_iadd (v := nI (4 * j2 + ji)) dX7_depth_81 (nI_add (4 * j2) ji) ?_
                refine ev_iload dX7_depth_82 rfl ?_
                refine ev_iast dX7_depth_84 (ly_k hI.ly 70 rfl) (am_ixn (by omega) (by decide)) ?_
                have hId : iv_M (am_up A 70 (4 * j2 + ji) (nI d)) (am_sI σ1 70 (4 * j2 + ji) (nI d)) := iv_M.cg (iv_M.up hI) (fun _ _ _ => by rw [am_uw2])
                have hAd : wf_A (am_up A 70 (4 * j2 + ji) (nI d)) := wf_70 hA ⟨d, by omega, rfl⟩
                have b8d := wf_nq8 hAd
                have hse : s_se (am_up A 70 (4 * j2 + ji) (nI d)) T = s_se A T := s_seU (by decide)
                refine ev_iload dX7_depth_85 rfl ?_
                refine ev_aload_n dX7_depth_87 rfl rfl ?_
                refine ev_iload_n dX7_depth_88 rfl rfl ?_
                refine ev_aload_n dX7_depth_89 rfl rfl ?_
                refine ev_getR (b := 69) dX7_depth_90 fl_X7_19 (ly_k hId.ly 65 rfl) (ly_r hId.ly 32 rfl) ?_
                refine ev_iload_n dX7_depth_93 rfl rfl ?_
                refine ev_iald (v := nI T) dX7_depth_94 (ly_k hId.ly 69 rfl) (am_ixn (by omega) (by decide)) ((hId.rd 69 j2 rfl).trans ((am_ua (by decide)).trans eT)) ?_
                refine ev_callV (as := [.int (nI js), .int (nI T)]) (st := [.int (nI (mk_m (fun d => decide (s_ul (s_dd A j2 ji d) js (s_se A T) = none)) d))]) dX7_depth_95 mfX7_unlike lk_X7_257 (ly_k hId.ly 65 rfl) (by decide) rfl (c_X7_unlike G D (am_up A 70 (4 * j2 + ji) (nI d)) (am_sI σ1 70 (4 * j2 + ji) (nI d)) hAd hId js T (by omega)) rfl rfl (Nat.le_of_ble_eq_true rfl) (am_hR (by omega) (by decide)) ⟨Nat.le_refl _, Nat.le_refl _⟩ ?_
                rintro _ σ6 ⟨rfl, hI6, hF6⟩
                refine ev_iconst (v := (-1)) dX7_depth_98 (by decide) ?_
                refine ev_icmp_ne (tgt := 109) dX7_depth_99 (by decide) (fun c7 => ?_) (fun c7 => ?_)
                · skip
                  rw [hse] at c7
                  have hw : ¬ s_ul (s_dd A j2 ji d) js (s_se A T) = none := fun z => c7 ((s_ulI b8d).mpr z)
                  refine ev_iconst (v := 0) dX7_depth_109 (by decide) ?_
                  refine ev_ior (v := nI (mk_m (fun d => decide (s_ul (s_dd A j2 ji d) js (s_se A T) = none)) (d + 1))) dX7_depth_110 ((mk_0 _).trans (congrArg nI (mk_f (decide_eq_false hw)))) ?_
                  refine ev_istore (lv' := [(0, .ref 65), (1, .int (nI js)), (2, .int (nI j2)), (3, .int (nI ji)), (4, .int (s_wr A (nI js))), (5, .int (A 70 (4 * j2 + ji))), (6, .int (nI (mk_m (fun d => decide (s_ul (s_dd A j2 ji d) js (s_se A T) = none)) (d + 1)))), (7, .int (nI d))]) dX7_depth_111 (by decide) rfl ?_
                  refine ev_iinc (lv' := [(0, .ref 65), (1, .int (nI js)), (2, .int (nI j2)), (3, .int (nI ji)), (4, .int (s_wr A (nI js))), (5, .int (A 70 (4 * j2 + ji))), (6, .int (nI (mk_m (fun d => decide (s_ul (s_dd A j2 ji d) js (s_se A T) = none)) (d + 1)))), (7, .int (nI (d + 1)))]) (v := nI (d + 1)) dX7_depth_113 rfl (nI_1 _) (by decide) rfl ?_
                  refine ev_goto (tgt := 66) dX7_depth_116 (by decide) ?_
                  exact ih (d + 1) (nI d) σ6 (by omega) (⟨d, by omega, rfl⟩) hI6 (fr_M.tr (fr_M.wr (by decide) hF) hF6) (by omega)
                · skip
                  rw [hse] at c7
                  have hw : s_ul (s_dd A j2 ji d) js (s_se A T) = none := (s_ulI b8d).mp c7
                  refine ev_iconst (v := 1) dX7_depth_102 (by decide) ?_
                  refine ev_iload dX7_depth_103 rfl ?_
                  refine ev_ishl (v := nI (2 ^ d)) dX7_depth_105 (mk_1s (by omega)) ?_
                  refine ev_goto (tgt := 110) dX7_depth_106 (by decide) ?_
                  refine ev_ior (v := nI (mk_m (fun d => decide (s_ul (s_dd A j2 ji d) js (s_se A T) = none)) (d + 1))) dX7_depth_110 ((fa_or _ _).trans (congrArg nI (mk_t (decide_eq_true hw)))) ?_
                  refine ev_istore (lv' := [(0, .ref 65), (1, .int (nI js)), (2, .int (nI j2)), (3, .int (nI ji)), (4, .int (s_wr A (nI js))), (5, .int (A 70 (4 * j2 + ji))), (6, .int (nI (mk_m (fun d => decide (s_ul (s_dd A j2 ji d) js (s_se A T) = none)) (d + 1)))), (7, .int (nI d))]) dX7_depth_111 (by decide) rfl ?_
                  refine ev_iinc (lv' := [(0, .ref 65), (1, .int (nI js)), (2, .int (nI j2)), (3, .int (nI ji)), (4, .int (s_wr A (nI js))), (5, .int (A 70 (4 * j2 + ji))), (6, .int (nI (mk_m (fun d => decide (s_ul (s_dd A j2 ji d) js (s_se A T) = none)) (d + 1)))), (7, .int (nI (d + 1)))]) (v := nI (d + 1)) dX7_depth_113 rfl (nI_1 _) (by decide) rfl ?_
                  refine ev_goto (tgt := 66) dX7_depth_116 (by decide) ?_
                  exact ih (d + 1) (nI d) σ6 (by omega) (⟨d, by omega, rfl⟩) hI6 (fr_M.tr (fr_M.wr (by decide) hF) hF6) (by omega)
          exact lp _ 0 (A 70 (4 * j2 + ji)) σ (by omega) ((wf_pp hA j2 (by omega)).2.2.2.2 ji hji) (iv_M.cg hI (fun _ _ _ => by rw [am_uu rfl])) fr_M.rf (Nat.lt_succ_self _)
        · skip
          have hir : ¬ am_rg i 4 := fun q => h4 ((am_rgl (n := 4) (by decide)).mpr q)
          refine ev_if_ne (tgt := 48) dX7_depth_42 (by decide) (fun c => absurd (by decide) c) (fun _ => ?_)
          refine ev_bipush (v := (-7)) dX7_depth_45 (by decide) ?_
          refine ev_reti dX7_depth_47 rfl (Nat.zero_le _) (Nat.zero_le _) ?_
          refine ⟨?_, hI, fr_M.rf⟩
          simp [sp_depth, c1, sN_n (show js < 2 ^ 31 by omega), am_inN h2 (by omega), sN_n (show j2 < 2 ^ 31 by omega), c3, am_inF (by omega) hir]
      · skip
        refine ev_bipush (v := (-5)) dX7_depth_33 (by decide) ?_
        refine ev_reti dX7_depth_35 rfl (Nat.zero_le _) (Nat.zero_le _) ?_
        refine ⟨?_, hI, fr_M.rf⟩
        simp [sp_depth, c1, sN_n (show js < 2 ^ 31 by omega), am_inN h2 (by omega), sN_n (show j2 < 2 ^ 31 by omega), c3]
    · skip
      refine ev_if_eq (tgt := 33) dX7_depth_20 (by decide) (fun _ => ?_) (fun c => absurd (by decide) c)
      refine ev_bipush (v := (-5)) dX7_depth_33 (by decide) ?_
      refine ev_reti dX7_depth_35 rfl (Nat.zero_le _) (Nat.zero_le _) ?_
      refine ⟨?_, hI, fr_M.rf⟩
      simp [sp_depth, c1, sN_n (show js < 2 ^ 31 by omega), am_inF (by omega) h2]
  · skip
    refine ev_iload dX7_depth_12 rfl ?_
    refine ev_reti dX7_depth_14 rfl (Nat.zero_le _) (Nat.zero_le _) ?_
    refine ⟨?_, hI, fr_M.rf⟩
    simp [sp_depth, c1]

set_option maxHeartbeats 400000 in
set_option maxRecDepth 100000 in
theorem c_X7_laws (G : am_G) (D : Nat) (A : am_S) (σ : am_M) (hA : wf_A A) (hI : iv_M A σ) (s t : Int32) : am_Mt G (D + 7) mX7_laws [.ref 65, .int s, .int t] σ 0 0 (am_qM A (.int (sp_laws A s t)) σ) := by
  have b7 := wf_np7 hA
  have b8 := wf_nq8 hA
  have b6 := wf_nt6 hA
  have b61 := wf_nt1 hA
  have b160 := wf_tp160 hA
  have brl := wf_rlt hA
  refine am_of moX7_laws (Nat.le_of_ble_eq_true rfl) ?_
  show am_Ev G mX7_laws (am_R (D + 7) 0 0) 0 0 (am_qM A (.int (sp_laws A s t)) σ) 0 [(0, .ref 65), (1, .int s), (2, .int t)] [] σ 0 0
  refine ev_aload_n dX7_laws_0 rfl rfl ?_
  refine ev_iload_n dX7_laws_1 rfl rfl ?_
  refine ev_callV (as := [.int s]) (st := []) dX7_laws_2 mfX7_sheetWrong lk_X7_254 (ly_k hI.ly 65 rfl) (by decide) rfl (c_X7_sheetWrong G (D + 5) A σ hA hI s) rfl rfl (Nat.le_of_ble_eq_true rfl) (am_hR (by omega) (by decide)) ⟨Nat.le_refl _, Nat.le_refl _⟩ ?_
  rintro _ _ ⟨rfl, rfl⟩
  refine ev_istore_n (lv' := [(0, .ref 65), (1, .int s), (2, .int t), (3, .int (s_wr A s))]) dX7_laws_5 rfl (by decide) rfl ?_
  refine ev_iload_n dX7_laws_6 rfl rfl ?_
  refine ev_if_ne (tgt := 17) dX7_laws_7 (by decide) (fun c1 => ?_) (fun c1 => ?_)
  · skip
    refine ev_iload_n dX7_laws_17 rfl rfl ?_
    refine ev_if_eq (tgt := 25) dX7_laws_18 (by decide) (fun c => absurd c (c1)) (fun _ => ?_)
    refine ev_iload_n dX7_laws_21 rfl rfl ?_
    refine ev_goto (tgt := 27) dX7_laws_22 (by decide) ?_
    refine ev_reti dX7_laws_27 rfl (Nat.zero_le _) (Nat.zero_le _) ?_
    refine ⟨?_, hI, fr_M.rf⟩
    simp [sp_laws, c1]
  · skip
    obtain ⟨js, hjs, rfl⟩ := s_wr0 c1
    refine ev_iload_n dX7_laws_10 rfl rfl ?_
    refine ev_callS (as := [.int t]) (st := []) dX7_laws_11 mfX7_isTable lk_X7_183 (c_X7_isTable G (D + 5) σ t) rfl rfl (Nat.le_of_ble_eq_true rfl) (am_hR (by omega) (by decide)) ⟨Nat.le_refl _, Nat.le_refl _⟩ ?_
    rintro _ _ (⟨⟨j2, h2, rfl⟩, rfl, rfl⟩ | ⟨h2, rfl, rfl⟩)
    · skip
      refine ev_if_ne (tgt := 28) dX7_laws_14 (by decide) (fun _ => ?_) (fun c => absurd c (by decide))
      refine ev_aload_n dX7_laws_28 rfl rfl ?_
      refine ev_getI (v := nI (s_rl A)) dX7_laws_29 fl_X7_100 (ly_k hI.ly 65 rfl) ((hI.rd 65 15 rfl).trans (wf_rl hA)) ?_
      refine ev_istore (lv' := [(0, .ref 65), (1, .int (nI js)), (2, .int (nI j2)), (3, .int (s_wr A (nI js))), (4, .int (nI (s_rl A)))]) dX7_laws_32 (by decide) rfl ?_
      refine ev_iconst (v := 0) dX7_laws_34 (by decide) ?_
      refine ev_istore (lv' := [(0, .ref 65), (1, .int (nI js)), (2, .int (nI j2)), (3, .int (s_wr A (nI js))), (4, .int (nI (s_rl A))), (5, .int 0)]) dX7_laws_35 (by decide) rfl ?_
      refine ev_iconst (v := 0) dX7_laws_37 (by decide) ?_
      refine ev_istore (lv' := [(0, .ref 65), (1, .int (nI js)), (2, .int (nI j2)), (3, .int (s_wr A (nI js))), (4, .int (nI (s_rl A))), (5, .int 0), (6, .int 0)]) dX7_laws_38 (by decide) rfl ?_
      have lp : ∀ (f : Nat) (k : Nat) (x : Int32) (σ1 : am_M), (k ≤ s_nt A) → (∃ k, k < s_nt A ∧ x = nI k) → (iv_M (am_up A 65 15 x) σ1) → (fr_M σ σ1) → s_nt A - k < f → am_Ev G mX7_laws (am_R (D + 7) 0 0) 0 0 (am_qM A (.int (sp_laws A (nI js) (nI j2))) σ) 40 [(0, .ref 65), (1, .int (nI js)), (2, .int (nI j2)), (3, .int (s_wr A (nI js))), (4, .int (nI (s_rl A))), (5, .int (nI (mk_m (fun k => decide (s_ul (s_fo A k) js (s_se A j2) = none)) k))), (6, .int (nI k))] [] σ1 0 0 := by
        intro f
        induction f with
        | zero => intro k x σ1 hk hx hI hF hf; exact absurd hf (Nat.not_lt_zero _)
        | succ f ih =>
          intro k x σ1 hk hx hI hF hf
          refine ev_iload dX7_laws_40 rfl ?_
          refine ev_aload_n dX7_laws_42 rfl rfl ?_
          refine ev_getI (v := nI (s_nt A)) dX7_laws_43 fl_X7_97 (ly_k hI.ly 65 rfl) ((hI.rd 65 14 rfl).trans ((am_un (by decide)).trans (wf_nt hA))) ?_
          refine ev_icmp_ge (tgt := 84) dX7_laws_46 (by decide) (fun c3 => ?_) (fun c3 => ?_)
          · skip
            have c3n : (s_nt A) ≤ k := (nI_leI (a := (s_nt A)) (b := k) (by omega) (by omega)).mp c3
            refine ev_aload_n dX7_laws_84 rfl rfl ?_
            refine ev_iload dX7_laws_85 rfl ?_
            refine ev_putI dX7_laws_87 fl_X7_100 rfl rfl (ly_k hI.ly 65 rfl) ?_
            refine ev_iload dX7_laws_90 rfl ?_
            refine ev_reti dX7_laws_92 rfl (Nat.zero_le _) (Nat.zero_le _) ?_
            have e : k = s_nt A := by omega
            subst e
            refine ⟨?_, iv_M.cg (iv_M.up hI) (fun _ _ _ => by rw [am_uw2, am_uu (wf_rl hA)]), (fr_M.wr (by decide) hF)⟩
            simp [sp_laws, c1, sN_n (show js < 2 ^ 31 by omega), am_inN h2 (by omega), sN_n (show j2 < 2 ^ 31 by omega)]
          · skip
            have c3n : ¬ (s_nt A) ≤ k := fun zz => c3 ((nI_leI (a := (s_nt A)) (b := k) (by omega) (by omega)).mpr zz)
            refine ev_aload_n dX7_laws_49 rfl rfl ?_
            refine ev_iload dX7_laws_50 rfl ?_
            refine ev_putI dX7_laws_52 fl_X7_100 rfl rfl (ly_k hI.ly 65 rfl) ?_
            have hId : iv_M (am_up A 65 15 (nI k)) (am_sI σ1 65 15 (nI k)) := iv_M.cg (iv_M.up hI) (fun _ _ _ => by rw [am_uw2])
            have hAd : wf_A (am_up A 65 15 (nI k)) := wf_15 hA ⟨k, by omega, rfl⟩
            have b8d := wf_nq8 hAd
            have hse : s_se (am_up A 65 15 (nI k)) j2 = s_se A j2 := s_seU (by decide)
            refine ev_iload dX7_laws_55 rfl ?_
            refine ev_aload_n dX7_laws_57 rfl rfl ?_
            refine ev_iload_n dX7_laws_58 rfl rfl ?_
            refine ev_iload_n dX7_laws_59 rfl rfl ?_
            refine ev_callV (as := [.int (nI js), .int (nI j2)]) (st := [.int (nI (mk_m (fun k => decide (s_ul (s_fo A k) js (s_se A j2) = none)) k))]) dX7_laws_60 mfX7_unlike lk_X7_257 (ly_k hId.ly 65 rfl) (by decide) rfl (c_X7_unlike G D (am_up A 65 15 (nI k)) (am_sI σ1 65 15 (nI k)) hAd hId js j2 (by omega)) rfl rfl (Nat.le_of_ble_eq_true rfl) (am_hR (by omega) (by decide)) ⟨Nat.le_refl _, Nat.le_refl _⟩ ?_
            rintro _ σ4 ⟨rfl, hI4, hF4⟩
            refine ev_iconst (v := (-1)) dX7_laws_63 (by decide) ?_
            refine ev_icmp_ne (tgt := 74) dX7_laws_64 (by decide) (fun c5 => ?_) (fun c5 => ?_)
            · skip
              rw [hse] at c5
              have hw : ¬ s_ul (s_fo A k) js (s_se A j2) = none := fun z => c5 ((s_ulI b8d).mpr z)
              refine ev_iconst (v := 0) dX7_laws_74 (by decide) ?_
              refine ev_ior (v := nI (mk_m (fun k => decide (s_ul (s_fo A k) js (s_se A j2) = none)) (k + 1))) dX7_laws_75 ((mk_0 _).trans (congrArg nI (mk_f (decide_eq_false hw)))) ?_
              refine ev_istore (lv' := [(0, .ref 65), (1, .int (nI js)), (2, .int (nI j2)), (3, .int (s_wr A (nI js))), (4, .int (nI (s_rl A))), (5, .int (nI (mk_m (fun k => decide (s_ul (s_fo A k) js (s_se A j2) = none)) (k + 1)))), (6, .int (nI k))]) dX7_laws_76 (by decide) rfl ?_
              refine ev_iinc (lv' := [(0, .ref 65), (1, .int (nI js)), (2, .int (nI j2)), (3, .int (s_wr A (nI js))), (4, .int (nI (s_rl A))), (5, .int (nI (mk_m (fun k => decide (s_ul (s_fo A k) js (s_se A j2) = none)) (k + 1)))), (6, .int (nI (k + 1)))]) (v := nI (k + 1)) dX7_laws_78 rfl (nI_1 _) (by decide) rfl ?_
              refine ev_goto (tgt := 40) dX7_laws_81 (by decide) ?_
              exact ih (k + 1) (nI k) σ4 (by omega) (⟨k, by omega, rfl⟩) hI4 (fr_M.tr (fr_M.wr (by decide) hF) hF4) (by omega)
            · skip
              rw [hse] at c5
              have hw : s_ul (s_fo A k) js (s_se A j2) = none := (s_ulI b8d).mp c5
              refine ev_iconst (v := 1) dX7_laws_67 (by decide) ?_
              refine ev_iload dX7_laws_68 rfl ?_
              refine ev_ishl (v := nI (2 ^ k)) dX7_laws_70 (mk_1s (by omega)) ?_
              refine ev_goto (tgt := 75) dX7_laws_71 (by decide) ?_
              refine ev_ior (v := nI (mk_m (fun k => decide (s_ul (s_fo A k) js (s_se A j2) = none)) (k + 1))) dX7_laws_75 ((fa_or _ _).trans (congrArg nI (mk_t (decide_eq_true hw)))) ?_
              refine ev_istore (lv' := [(0, .ref 65), (1, .int (nI js)), (2, .int (nI j2)), (3, .int (s_wr A (nI js))), (4, .int (nI (s_rl A))), (5, .int (nI (mk_m (fun k => decide (s_ul (s_fo A k) js (s_se A j2) = none)) (k + 1)))), (6, .int (nI k))]) dX7_laws_76 (by decide) rfl ?_
              refine ev_iinc (lv' := [(0, .ref 65), (1, .int (nI js)), (2, .int (nI j2)), (3, .int (s_wr A (nI js))), (4, .int (nI (s_rl A))), (5, .int (nI (mk_m (fun k => decide (s_ul (s_fo A k) js (s_se A j2) = none)) (k + 1)))), (6, .int (nI (k + 1)))]) (v := nI (k + 1)) dX7_laws_78 rfl (nI_1 _) (by decide) rfl ?_
              refine ev_goto (tgt := 40) dX7_laws_81 (by decide) ?_
              exact ih (k + 1) (nI k) σ4 (by omega) (⟨k, by omega, rfl⟩) hI4 (fr_M.tr (fr_M.wr (by decide) hF) hF4) (by omega)
      exact lp _ 0 (nI (s_rl A)) σ (by omega) (⟨s_rl A, by omega, rfl⟩) (iv_M.cg hI (fun _ _ _ => by rw [am_uu (wf_rl hA)])) fr_M.rf (Nat.lt_succ_self _)
    · skip
      refine ev_if_ne (tgt := 28) dX7_laws_14 (by decide) (fun c => absurd (by decide) c) (fun _ => ?_)
      refine ev_iload_n dX7_laws_17 rfl rfl ?_
      refine ev_if_eq (tgt := 25) dX7_laws_18 (by decide) (fun _ => ?_) (fun c => absurd (c1) c)
      refine ev_bipush (v := (-5)) dX7_laws_25 (by decide) ?_
      refine ev_reti dX7_laws_27 rfl (Nat.zero_le _) (Nat.zero_le _) ?_
      refine ⟨?_, hI, fr_M.rf⟩
      simp [sp_laws, c1, sN_n (show js < 2 ^ 31 by omega), am_inF (by omega) h2]

set_option maxHeartbeats 400000 in
set_option maxRecDepth 100000 in
theorem c_X7_film (G : am_G) (D : Nat) (A : am_S) (σ : am_M) (hA : wf_A A) (hI : iv_M A σ) (s t : Int32) : am_Mt G (D + 6) mX7_film [.ref 65, .int s, .int t] σ 0 0 (am_qP (sp_film A s t) σ) := by
  have b7 := wf_np7 hA
  have b8 := wf_nq8 hA
  have b6 := wf_nt6 hA
  have b61 := wf_nt1 hA
  have b160 := wf_tp160 hA
  have brl := wf_rlt hA
  refine am_of moX7_film (Nat.le_of_ble_eq_true rfl) ?_
  show am_Ev G mX7_film (am_R (D + 6) 0 0) 0 0 (am_qP (sp_film A s t) σ) 0 [(0, .ref 65), (1, .int s), (2, .int t)] [] σ 0 0
  refine ev_iload_n dX7_film_0 rfl rfl ?_
  refine ev_iconst (v := 0) dX7_film_1 (by decide) ?_
  refine ev_iconst (v := 3) dX7_film_2 (by decide) ?_
  refine ev_callS (as := [.int s, .int 0, .int 3]) (st := []) dX7_film_3 mfX7_in lk_X7_90 (c_X7_in G (D + 5) σ s 0 3) rfl rfl (Nat.le_of_ble_eq_true rfl) (am_hR (by omega) (by decide)) ⟨Nat.le_refl _, Nat.le_refl _⟩ ?_
  rintro _ _ (⟨h1, rfl, rfl⟩ | ⟨h1, rfl, rfl⟩)
  · skip
    obtain ⟨js, hjs, rfl⟩ := (am_rgl (n := 4) (by decide)).mp h1
    refine ev_if_ne (tgt := 12) dX7_film_6 (by decide) (fun _ => ?_) (fun c => absurd c (by decide))
    refine ev_iload_n dX7_film_12 rfl rfl ?_
    refine ev_callS (as := [.int t]) (st := []) dX7_film_13 mfX7_isTable lk_X7_183 (c_X7_isTable G (D + 4) σ t) rfl rfl (Nat.le_of_ble_eq_true rfl) (am_hR (by omega) (by decide)) ⟨Nat.le_refl _, Nat.le_refl _⟩ ?_
    rintro _ _ (⟨⟨j2, h2, rfl⟩, rfl, rfl⟩ | ⟨h2, rfl, rfl⟩)
    · skip
      refine ev_if_ne (tgt := 22) dX7_film_16 (by decide) (fun _ => ?_) (fun c => absurd c (by decide))
      refine ev_aload_n dX7_film_22 rfl rfl ?_
      refine ev_getR (b := 80) dX7_film_23 fl_X7_52 (ly_k hI.ly 65 rfl) (ly_r hI.ly 43 rfl) ?_
      refine ev_iload_n dX7_film_26 rfl rfl ?_
      refine ev_iconst (v := 2) dX7_film_27 (by decide) ?_
      refine ev_iast dX7_film_28 (ly_k hI.ly 80 rfl) (am_ixn (by omega) (by decide)) ?_
      refine ev_aload_n dX7_film_29 rfl rfl ?_
      refine ev_getR (b := 81) dX7_film_30 fl_X7_55 (ly_k (iv_M.up hI).ly 65 rfl) (ly_r (iv_M.up hI).ly 44 rfl) ?_
      refine ev_iload_n dX7_film_33 rfl rfl ?_
      refine ev_aload_n dX7_film_34 rfl rfl ?_
      refine ev_getI (v := nI (s_nq A)) dX7_film_35 fl_X7_94 (ly_k (iv_M.up hI).ly 65 rfl) (am_ru (by omega) ((hI.rd 65 6 rfl).trans (wf_nq hA))) ?_
      refine ev_iast dX7_film_38 (ly_k (iv_M.up hI).ly 81 rfl) (am_ixn (by omega) (by decide)) ?_
      refine ev_iconst (v := 0) dX7_film_39 (by decide) ?_
      refine ev_istore_n (lv' := [(0, .ref 65), (1, .int (nI js)), (2, .int (nI j2)), (3, .int 0)]) dX7_film_40 rfl (by decide) rfl ?_
      have lp : ∀ (f : Nat) (n : Nat) (σ1 : am_M), (n ≤ 40) → (iv_M (s_fm A js j2 n) σ1) → (fr_M σ σ1) → 40 - n < f → am_Ev G mX7_film (am_R (D + 6) 0 0) 0 0 (am_qP (sp_film A (nI js) (nI j2)) σ) 41 [(0, .ref 65), (1, .int (nI js)), (2, .int (nI j2)), (3, .int (nI n))] [] σ1 0 0 := by
        intro f
        induction f with
        | zero => intro n σ1 hn hI hF hf; exact absurd hf (Nat.not_lt_zero _)
        | succ f ih =>
          intro n σ1 hn hI hF hf
          refine ev_iload_n dX7_film_41 rfl rfl ?_
          refine ev_bipush (v := 40) dX7_film_42 (by decide) ?_
          refine ev_icmp_ge (tgt := 86) dX7_film_44 (by decide) (fun c3 => ?_) (fun c3 => ?_)
          · skip
            have c3n : 40 ≤ n := (nI_leI (a := 40) (b := n) (by omega) (by omega)).mp c3
            refine ev_aload_n dX7_film_86 rfl rfl ?_
            refine ev_getI (v := nI (s_nq A)) dX7_film_87 fl_X7_94 (ly_k hI.ly 65 rfl) ((hI.rd 65 6 rfl).trans ((s_fm_65 n).trans (wf_nq hA))) ?_
            refine ev_reti dX7_film_90 rfl (Nat.zero_le _) (Nat.zero_le _) ?_
            have e : n = 40 := by omega
            subst e
            exact am_qPi (by unfold sp_film; rw [am_inN hjs (by omega), sN_n (show js < 2 ^ 31 by omega), am_inN h2 (by omega), sN_n (show j2 < 2 ^ 31 by omega), ← wf_nq hA]; rfl) hI hF
          · skip
            have c3n : ¬ 40 ≤ n := fun zz => c3 ((nI_leI (a := 40) (b := n) (by omega) (by omega)).mpr zz)
            refine ev_aload_n dX7_film_47 rfl rfl ?_
            refine ev_getR (b := 82) dX7_film_48 fl_X7_58 (ly_k hI.ly 65 rfl) (ly_r hI.ly 45 rfl) ?_
            refine ev_bipush (v := 40) dX7_film_51 (by decide) ?_
            refine ev_iload_n dX7_film_53 rfl rfl ?_
            refine ev_imul (v := nI (40 * js)) dX7_film_54 (pk_mul 40 js) ?_
            refine ev_iload_n dX7_film_55 rfl rfl ?_
            refine ev_iadd (v := nI (40 * js + n)) dX7_film_56 (nI_add (40 * js) n) ?_
            refine ev_iload_n dX7_film_57 rfl rfl ?_
            refine ev_aload_n dX7_film_58 rfl rfl ?_
            refine ev_getI (v := nI (s_nq A)) dX7_film_59 fl_X7_94 (ly_k hI.ly 65 rfl) ((hI.rd 65 6 rfl).trans ((s_fm_65 n).trans (wf_nq hA))) ?_
            refine ev_icmp_ge (tgt := 78) dX7_film_62 (by decide) (fun c4 => ?_) (fun c4 => ?_)
            · skip
              have c4n : (s_nq A) ≤ n := (nI_leI (a := (s_nq A)) (b := n) (by omega) (by omega)).mp c4
              refine ev_iconst (v := 0) dX7_film_78 (by decide) ?_
              refine ev_iast dX7_film_79 (ly_k hI.ly 82 rfl) (am_ixn (by omega) (by decide)) ?_
              refine ev_iinc (lv' := [(0, .ref 65), (1, .int (nI js)), (2, .int (nI j2)), (3, .int (nI (n + 1)))]) (v := nI (n + 1)) dX7_film_80 rfl (nI_1 _) (by decide) rfl ?_
              refine ev_goto (tgt := 41) dX7_film_83 (by decide) ?_
              exact ih (n + 1) (am_sI σ1 82 (40 * js + n) 0) (by omega) (iv_M.cg (iv_M.up hI) (fun _ _ _ => by rw [s_fmS, if_neg (fun z => by have := z.1; omega)])) (fr_M.wr (by decide) hF) (by omega)
            · skip
              have c4n : ¬ (s_nq A) ≤ n := fun zz => c4 ((nI_leI (a := (s_nq A)) (b := n) (by omega) (by omega)).mpr zz)
              have hnq := (s_fm_eq (A := A) (s := js) (T := j2) n).nq
              refine ev_aload_n dX7_film_65 rfl rfl ?_
              refine ev_iload_n dX7_film_66 rfl rfl ?_
              refine ev_iload_n dX7_film_67 rfl rfl ?_
              refine ev_callV (as := [.int (nI j2), .int (nI n)]) (st := [.int (nI (40 * js + n)), .ref 82]) dX7_film_68 mfX7_isRight lk_X7_202 (ly_k hI.ly 65 rfl) (by decide) rfl (c_X7_isRight G D (s_fm A js j2 n) σ1 (wf_fm hA n) hI j2 n (by omega)) rfl rfl (Nat.le_of_ble_eq_true rfl) (am_hR (by omega) (by decide)) ⟨Nat.le_refl _, Nat.le_refl _⟩ ?_
              rintro _ σ5 (⟨h5, rfl, hI5, hF5⟩ | ⟨h5, rfl, hI5, hF5⟩)
              · skip
                rw [s_fm_rt] at h5
                refine ev_if_eq (tgt := 78) dX7_film_71 (by decide) (fun c => absurd c (by decide)) (fun _ => ?_)
                refine ev_iconst (v := 1) dX7_film_74 (by decide) ?_
                refine ev_goto (tgt := 79) dX7_film_75 (by decide) ?_
                refine ev_iast dX7_film_79 (ly_k hI5.ly 82 rfl) (am_ixn (by omega) (by decide)) ?_
                refine ev_iinc (lv' := [(0, .ref 65), (1, .int (nI js)), (2, .int (nI j2)), (3, .int (nI (n + 1)))]) (v := nI (n + 1)) dX7_film_80 rfl (nI_1 _) (by decide) rfl ?_
                refine ev_goto (tgt := 41) dX7_film_83 (by decide) ?_
                exact ih (n + 1) (am_sI σ5 82 (40 * js + n) 1) (by omega) (iv_M.cg (iv_M.up hI5) (fun _ _ _ => by rw [s_fmS, if_pos ⟨by omega, h5⟩])) (fr_M.wr (by decide) (fr_M.tr hF hF5)) (by omega)
              · skip
                rw [s_fm_rt] at h5
                refine ev_if_eq (tgt := 78) dX7_film_71 (by decide) (fun _ => ?_) (fun c => absurd (by decide) c)
                refine ev_iconst (v := 0) dX7_film_78 (by decide) ?_
                refine ev_iast dX7_film_79 (ly_k hI5.ly 82 rfl) (am_ixn (by omega) (by decide)) ?_
                refine ev_iinc (lv' := [(0, .ref 65), (1, .int (nI js)), (2, .int (nI j2)), (3, .int (nI (n + 1)))]) (v := nI (n + 1)) dX7_film_80 rfl (nI_1 _) (by decide) rfl ?_
                refine ev_goto (tgt := 41) dX7_film_83 (by decide) ?_
                exact ih (n + 1) (am_sI σ5 82 (40 * js + n) 0) (by omega) (iv_M.cg (iv_M.up hI5) (fun _ _ _ => by rw [s_fmS, if_neg (fun z => h5 z.2)])) (fr_M.wr (by decide) (fr_M.tr hF hF5)) (by omega)
      exact lp _ 0 (am_sI (am_sI σ 80 js 2) 81 js (nI (s_nq A))) (by omega) (iv_M.cg (iv_M.up (iv_M.up hI)) (fun _ _ _ => by rw [← wf_nq hA]; rfl)) (fr_M.wr (by decide) (fr_M.wr (by decide) fr_M.rf)) (Nat.lt_succ_self _)
    · skip
      refine ev_if_ne (tgt := 22) dX7_film_16 (by decide) (fun c => absurd (by decide) c) (fun _ => ?_)
      refine ev_bipush (v := (-5)) dX7_film_19 (by decide) ?_
      refine ev_reti dX7_film_21 rfl (Nat.zero_le _) (Nat.zero_le _) ?_
      exact am_qPi (by simp [sp_film, am_inN hjs (by omega), sN_n (show js < 2 ^ 31 by omega), am_inF (by omega) h2]) hI fr_M.rf
  · skip
    have hsr : ¬ am_rg s 4 := fun q => h1 ((am_rgl (n := 4) (by decide)).mpr q)
    refine ev_if_ne (tgt := 12) dX7_film_6 (by decide) (fun c => absurd (by decide) c) (fun _ => ?_)
    refine ev_bipush (v := (-2)) dX7_film_9 (by decide) ?_
    refine ev_reti dX7_film_11 rfl (Nat.zero_le _) (Nat.zero_le _) ?_
    exact am_qPi (by simp [sp_film, am_inF (by omega) hsr]) hI fr_M.rf

