/-! the reference: who is right, scores -/
set_option maxHeartbeats 400000 in
set_option maxRecDepth 100000 in
theorem c_X7_isRight (G : am_G) (D : Nat) (A : am_S) (σ : am_M) (hA : wf_A A) (hI : iv_M A σ) (T q : Nat) (hq : q < s_nq A) : am_Mt G (D + 5) mX7_isRight [.ref 65, .int (nI T), .int (nI q)] σ 0 0 (am_zM (s_rt A (s_se A T) q = true) A σ) := by
  have b7 := wf_np7 hA
  have b8 := wf_nq8 hA
  have b6 := wf_nt6 hA
  have b61 := wf_nt1 hA
  have b160 := wf_tp160 hA
  have brl := wf_rlt hA
  refine am_of moX7_isRight (Nat.le_of_ble_eq_true rfl) ?_
  show am_Ev G mX7_isRight (am_R (D + 5) 0 0) 0 0 (am_zM (s_rt A (s_se A T) q = true) A σ) 0 [(0, .ref 65), (1, .int (nI T)), (2, .int (nI q))] [] σ 0 0
  refine ev_aload_n dX7_isRight_0 rfl rfl ?_
  refine ev_iload_n dX7_isRight_1 rfl rfl ?_
  refine ev_iload_n dX7_isRight_2 rfl rfl ?_
  refine ev_callV (as := [.int (nI T), .int (nI q)]) (st := []) dX7_isRight_3 mfX7_believed lk_X7_195 (ly_k hI.ly 65 rfl) (by decide) rfl (c_X7_believed G D A σ hA hI T q (by omega)) rfl rfl (Nat.le_of_ble_eq_true rfl) (am_hR (by omega) (by decide)) ⟨Nat.le_refl _, Nat.le_refl _⟩ ?_
  rintro _ σ1 ⟨rfl, hI1, hF1⟩
  cases ho : s_be A (s_se A T) q with
  | none =>
    change am_Ev G mX7_isRight (am_R (D + 5) 0 0) 0 0 (am_zM (s_rt A (s_se A T) q = true) A σ) 6 [(0, .ref 65), (1, .int (nI T)), (2, .int (nI q))] [.int (-1)] σ1 0 0
    refine ev_istore_n (lv' := [(0, .ref 65), (1, .int (nI T)), (2, .int (nI q)), (3, .int (-1))]) dX7_isRight_6 rfl (by decide) rfl ?_
    refine ev_iload_n dX7_isRight_7 rfl rfl ?_
    refine ev_iconst (v := (-1)) dX7_isRight_8 (by decide) ?_
    refine ev_icmp_eq (tgt := 25) dX7_isRight_9 (by decide) (fun _ => ?_) (fun c => absurd (by decide) c)
    refine ev_iconst (v := 0) dX7_isRight_25 (by decide) ?_
    refine ev_retz dX7_isRight_26 rfl (Or.inl rfl) (Nat.zero_le _) (Nat.zero_le _) ?_
    exact Or.inr ⟨by rw [s_rtN ho]; decide, rfl, hI1, (fr_M.tr fr_M.rf hF1)⟩
  | some b =>
    have hbl := (s_bllt ho).1
    change am_Ev G mX7_isRight (am_R (D + 5) 0 0) 0 0 (am_zM (s_rt A (s_se A T) q = true) A σ) 6 [(0, .ref 65), (1, .int (nI T)), (2, .int (nI q))] [.int (nI b)] σ1 0 0
    refine ev_istore_n (lv' := [(0, .ref 65), (1, .int (nI T)), (2, .int (nI q)), (3, .int (nI b))]) dX7_isRight_6 rfl (by decide) rfl ?_
    refine ev_iload_n dX7_isRight_7 rfl rfl ?_
    refine ev_iconst (v := (-1)) dX7_isRight_8 (by decide) ?_
    refine ev_icmp_eq (tgt := 25) dX7_isRight_9 (by decide) (fun c => absurd c (s_bi_n (by omega))) (fun _ => ?_)
    refine ev_aload_n dX7_isRight_12 rfl rfl ?_
    refine ev_iload_n dX7_isRight_13 rfl rfl ?_
    refine ev_iload_n dX7_isRight_14 rfl rfl ?_
    refine ev_callV (as := [.int (nI b), .int (nI q)]) (st := []) dX7_isRight_15 mfX7_canAnswer lk_X7_198 (ly_k hI1.ly 65 rfl) (by decide) rfl (c_X7_canAnswer G (D + 2) A σ1 hA hI1 b q (by omega) (by omega)) rfl rfl (Nat.le_of_ble_eq_true rfl) (am_hR (by omega) (by decide)) ⟨Nat.le_refl _, Nat.le_refl _⟩ ?_
    rintro _ _ (⟨h2, rfl, rfl⟩ | ⟨h2, rfl, rfl⟩)
    · skip
      refine ev_if_eq (tgt := 25) dX7_isRight_18 (by decide) (fun c => absurd c (by decide)) (fun _ => ?_)
      refine ev_iconst (v := 1) dX7_isRight_21 (by decide) ?_
      refine ev_goto (tgt := 26) dX7_isRight_22 (by decide) ?_
      refine ev_retz dX7_isRight_26 rfl (Or.inr rfl) (Nat.zero_le _) (Nat.zero_le _) ?_
      exact Or.inl ⟨by rw [s_rtB ho]; exact h2, rfl, hI1, (fr_M.tr fr_M.rf hF1)⟩
    · skip
      refine ev_if_eq (tgt := 25) dX7_isRight_18 (by decide) (fun _ => ?_) (fun c => absurd (by decide) c)
      refine ev_iconst (v := 0) dX7_isRight_25 (by decide) ?_
      refine ev_retz dX7_isRight_26 rfl (Or.inl rfl) (Nat.zero_le _) (Nat.zero_le _) ?_
      exact Or.inr ⟨by rw [s_rtB ho]; exact h2, rfl, hI1, (fr_M.tr fr_M.rf hF1)⟩

set_option maxHeartbeats 400000 in
set_option maxRecDepth 100000 in
theorem c_X7_knowing (G : am_G) (D : Nat) (A : am_S) (σ : am_M) (hA : wf_A A) (hI : iv_M A σ) (T q : Nat) (hq : q < s_nq A) : am_Mt G (D + 3) mX7_knowing [.ref 65, .int (nI T), .int (nI q)] σ 0 0 (am_q (.int (nI (s_kg A T q))) σ) := by
  have b7 := wf_np7 hA
  have b8 := wf_nq8 hA
  have b6 := wf_nt6 hA
  have b61 := wf_nt1 hA
  have b160 := wf_tp160 hA
  have brl := wf_rlt hA
  refine am_of moX7_knowing (Nat.le_of_ble_eq_true rfl) ?_
  show am_Ev G mX7_knowing (am_R (D + 3) 0 0) 0 0 (am_q (.int (nI (s_kg A T q))) σ) 0 [(0, .ref 65), (1, .int (nI T)), (2, .int (nI q))] [] σ 0 0
  have lp : ∀ (f : Nat) (p : Nat), (p ≤ s_np A) → s_np A - p < f → am_Ev G mX7_knowing (am_R (D + 3) 0 0) 0 0 (am_q (.int (nI (s_kg A T q))) σ) 5 [(0, .ref 65), (1, .int (nI T)), (2, .int (nI q)), (3, .int (nI (mk_m (fun p => s_se A T p && s_cn A p q) p))), (4, .int (nI p))] [] σ 0 0 := by
    intro f
    induction f with
    | zero => intro p hp hf; exact absurd hf (Nat.not_lt_zero _)
    | succ f ih =>
      intro p hp hf
      refine ev_iload dX7_knowing_5 rfl ?_
      refine ev_aload_n dX7_knowing_7 rfl rfl ?_
      refine ev_getI (v := nI (s_np A)) dX7_knowing_8 fl_X7_87 (ly_k hI.ly 65 rfl) ((hI.rd 65 0 rfl).trans (wf_np hA)) ?_
      refine ev_icmp_ge (tgt := 52) dX7_knowing_11 (by decide) (fun c1 => ?_) (fun c1 => ?_)
      · skip
        have c1n : (s_np A) ≤ p := (nI_leI (a := (s_np A)) (b := p) (by omega) (by omega)).mp c1
        refine ev_iload_n dX7_knowing_52 rfl rfl ?_
        refine ev_reti dX7_knowing_53 rfl (Nat.zero_le _) (Nat.zero_le _) ?_
        have e : p = s_np A := by omega
        subst e
        exact ⟨rfl, rfl⟩
      · skip
        have c1n : ¬ (s_np A) ≤ p := fun zz => c1 ((nI_leI (a := (s_np A)) (b := p) (by omega) (by omega)).mpr zz)
        refine ev_iload_n dX7_knowing_14 rfl rfl ?_
        refine ev_aload_n dX7_knowing_15 rfl rfl ?_
        refine ev_getR (b := 69) dX7_knowing_16 fl_X7_19 (ly_k hI.ly 65 rfl) (ly_r hI.ly 32 rfl) ?_
        refine ev_iload dX7_knowing_19 rfl ?_
        refine ev_iald (v := A 69 p) dX7_knowing_21 (ly_k hI.ly 69 rfl) (am_ixn (by omega) (by decide)) (hI.rd 69 p rfl) ?_
        refine ev_iload_n dX7_knowing_22 rfl rfl ?_
        refine ev_icmp_ne (tgt := 43) dX7_knowing_23 (by decide) (fun c2 => ?_) (fun c2 => ?_)
        · skip
          have hs : s_se A T p = false := decide_eq_false c2
          refine ev_iconst (v := 0) dX7_knowing_43 (by decide) ?_
          refine ev_ior (v := nI (mk_m (fun p => s_se A T p && s_cn A p q) (p + 1))) dX7_knowing_44 ((mk_0 _).trans (congrArg nI (mk_f (by show (_ && _) = false; rw [hs]; rfl)))) ?_
          refine ev_istore_n (lv' := [(0, .ref 65), (1, .int (nI T)), (2, .int (nI q)), (3, .int (nI (mk_m (fun p => s_se A T p && s_cn A p q) (p + 1)))), (4, .int (nI p))]) dX7_knowing_45 rfl (by decide) rfl ?_
          refine ev_iinc (lv' := [(0, .ref 65), (1, .int (nI T)), (2, .int (nI q)), (3, .int (nI (mk_m (fun p => s_se A T p && s_cn A p q) (p + 1)))), (4, .int (nI (p + 1)))]) (v := nI (p + 1)) dX7_knowing_46 rfl (nI_1 _) (by decide) rfl ?_
          refine ev_goto (tgt := 5) dX7_knowing_49 (by decide) ?_
          exact ih (p + 1) (by omega) (by omega)
        · skip
          have hs : s_se A T p = true := decide_eq_true c2
          refine ev_aload_n dX7_knowing_26 rfl rfl ?_
          refine ev_iload dX7_knowing_27 rfl ?_
          refine ev_iload_n dX7_knowing_29 rfl rfl ?_
          refine ev_callV (as := [.int (nI p), .int (nI q)]) (st := [.int (nI (mk_m (fun p => s_se A T p && s_cn A p q) p))]) dX7_knowing_30 mfX7_canAnswer lk_X7_198 (ly_k hI.ly 65 rfl) (by decide) rfl (c_X7_canAnswer G D A σ hA hI p q (by omega) (by omega)) rfl rfl (Nat.le_of_ble_eq_true rfl) (am_hR (by omega) (by decide)) ⟨Nat.le_refl _, Nat.le_refl _⟩ ?_
          rintro _ _ (⟨h3, rfl, rfl⟩ | ⟨h3, rfl, rfl⟩)
          · skip
            refine ev_if_eq (tgt := 43) dX7_knowing_33 (by decide) (fun c => absurd c (by decide)) (fun _ => ?_)
            refine ev_iconst (v := 1) dX7_knowing_36 (by decide) ?_
            refine ev_iload dX7_knowing_37 rfl ?_
            refine ev_ishl (v := nI (2 ^ p)) dX7_knowing_39 (mk_1s (by omega)) ?_
            refine ev_goto (tgt := 44) dX7_knowing_40 (by decide) ?_
            refine ev_ior (v := nI (mk_m (fun p => s_se A T p && s_cn A p q) (p + 1))) dX7_knowing_44 ((fa_or _ _).trans (congrArg nI (mk_t (by show (_ && _) = true; rw [hs, h3]; rfl)))) ?_
            refine ev_istore_n (lv' := [(0, .ref 65), (1, .int (nI T)), (2, .int (nI q)), (3, .int (nI (mk_m (fun p => s_se A T p && s_cn A p q) (p + 1)))), (4, .int (nI p))]) dX7_knowing_45 rfl (by decide) rfl ?_
            refine ev_iinc (lv' := [(0, .ref 65), (1, .int (nI T)), (2, .int (nI q)), (3, .int (nI (mk_m (fun p => s_se A T p && s_cn A p q) (p + 1)))), (4, .int (nI (p + 1)))]) (v := nI (p + 1)) dX7_knowing_46 rfl (nI_1 _) (by decide) rfl ?_
            refine ev_goto (tgt := 5) dX7_knowing_49 (by decide) ?_
            exact ih (p + 1) (by omega) (by omega)
          · skip
            refine ev_if_eq (tgt := 43) dX7_knowing_33 (by decide) (fun _ => ?_) (fun c => absurd (by decide) c)
            refine ev_iconst (v := 0) dX7_knowing_43 (by decide) ?_
            refine ev_ior (v := nI (mk_m (fun p => s_se A T p && s_cn A p q) (p + 1))) dX7_knowing_44 ((mk_0 _).trans (congrArg nI (mk_f (by show (_ && _) = false; rw [hs, Bool.eq_false_iff.mpr h3]; rfl)))) ?_
            refine ev_istore_n (lv' := [(0, .ref 65), (1, .int (nI T)), (2, .int (nI q)), (3, .int (nI (mk_m (fun p => s_se A T p && s_cn A p q) (p + 1)))), (4, .int (nI p))]) dX7_knowing_45 rfl (by decide) rfl ?_
            refine ev_iinc (lv' := [(0, .ref 65), (1, .int (nI T)), (2, .int (nI q)), (3, .int (nI (mk_m (fun p => s_se A T p && s_cn A p q) (p + 1)))), (4, .int (nI (p + 1)))]) (v := nI (p + 1)) dX7_knowing_46 rfl (nI_1 _) (by decide) rfl ?_
            refine ev_goto (tgt := 5) dX7_knowing_49 (by decide) ?_
            exact ih (p + 1) (by omega) (by omega)
  refine ev_iconst (v := 0) dX7_knowing_0 (by decide) ?_
  refine ev_istore_n (lv' := [(0, .ref 65), (1, .int (nI T)), (2, .int (nI q)), (3, .int 0)]) dX7_knowing_1 rfl (by decide) rfl ?_
  refine ev_iconst (v := 0) dX7_knowing_2 (by decide) ?_
  refine ev_istore (lv' := [(0, .ref 65), (1, .int (nI T)), (2, .int (nI q)), (3, .int 0), (4, .int 0)]) dX7_knowing_3 (by decide) rfl ?_
  exact lp _ 0 (by omega) (Nat.lt_succ_self _)

set_option maxHeartbeats 400000 in
set_option maxRecDepth 100000 in
theorem c_X7_pointsOf (G : am_G) (D : Nat) (A : am_S) (σ : am_M) (hA : wf_A A) (hI : iv_M A σ) (T q : Nat) (hT : T < 3) (hq : q < s_nq A) : am_Mt G (D + 6) mX7_pointsOf [.ref 65, .int (nI T), .int (nI q)] σ 0 0 (am_qM A (.int (s_ps2 A T q)) σ) := by
  have b7 := wf_np7 hA
  have b8 := wf_nq8 hA
  have b6 := wf_nt6 hA
  have b61 := wf_nt1 hA
  have b160 := wf_tp160 hA
  have brl := wf_rlt hA
  refine am_of moX7_pointsOf (Nat.le_of_ble_eq_true rfl) ?_
  show am_Ev G mX7_pointsOf (am_R (D + 6) 0 0) 0 0 (am_qM A (.int (s_ps2 A T q)) σ) 0 [(0, .ref 65), (1, .int (nI T)), (2, .int (nI q))] [] σ 0 0
  refine ev_aload_n dX7_pointsOf_0 rfl rfl ?_
  refine ev_iconst (v := 1) dX7_pointsOf_1 (by decide) ?_
  refine ev_iconst (v := 0) dX7_pointsOf_2 (by decide) ?_
  refine ev_aload_n dX7_pointsOf_3 rfl rfl ?_
  refine ev_getR (b := 72) dX7_pointsOf_4 fl_X7_28 (ly_k hI.ly 65 rfl) (ly_r hI.ly 35 rfl) ?_
  refine ev_iload_n dX7_pointsOf_7 rfl rfl ?_
  refine ev_iald (v := A 72 q) dX7_pointsOf_8 (ly_k hI.ly 72 rfl) (am_ixn (by omega) (by decide)) (hI.rd 72 q rfl) ?_
  refine ev_iconst (v := 0) dX7_pointsOf_9 (by decide) ?_
  refine ev_aload_n dX7_pointsOf_10 rfl rfl ?_
  refine ev_getR (b := 71) dX7_pointsOf_11 fl_X7_25 (ly_k hI.ly 65 rfl) (ly_r hI.ly 34 rfl) ?_
  refine ev_iload_n dX7_pointsOf_14 rfl rfl ?_
  refine ev_iald (v := A 71 q) dX7_pointsOf_15 (ly_k hI.ly 71 rfl) (am_ixn (by omega) (by decide)) (hI.rd 71 q rfl) ?_
  refine ev_iload_n dX7_pointsOf_16 rfl rfl ?_
  refine ev_iconst (v := 0) dX7_pointsOf_17 (by decide) ?_
  refine ev_callV (as := [.int 1, .int 0, .int (A 72 q), .int 0, .int (A 71 q), .int (nI q), .int 0]) (st := []) dX7_pointsOf_18 mfX7_asksOf lk_X7_173 (ly_k hI.ly 65 rfl) (by decide) rfl (c_X7_asksOf G (D + 3) A σ hA hI 1 (by omega) 0 (A 72 q) 0 (A 71 q) (nI q) 0) rfl rfl (Nat.le_of_ble_eq_true rfl) (am_hR (by omega) (by decide)) ⟨Nat.le_refl _, Nat.le_refl _⟩ ?_
  rintro _ σ1 ⟨rfl, hI1, hF1⟩
  refine ev_istore_n (lv' := [(0, .ref 65), (1, .int (nI T)), (2, .int (nI q)), (3, .int (s_as A 1 (s_nm 0 (A 72 q) 0 (A 71 q) (nI q) 0)))]) dX7_pointsOf_21 rfl (by decide) rfl ?_
  refine ev_aload_n dX7_pointsOf_22 rfl rfl ?_
  refine ev_iload_n dX7_pointsOf_23 rfl rfl ?_
  refine ev_iload_n dX7_pointsOf_24 rfl rfl ?_
  refine ev_callV (as := [.int (nI T), .int (nI q)]) (st := []) dX7_pointsOf_25 mfX7_isRight lk_X7_202 (ly_k hI1.ly 65 rfl) (by decide) rfl (c_X7_isRight G D A σ1 hA hI1 T q (by omega)) rfl rfl (Nat.le_of_ble_eq_true rfl) (am_hR (by omega) (by decide)) ⟨Nat.le_refl _, Nat.le_refl _⟩ ?_
  rintro _ σ2 (⟨h2, rfl, hI2, hF2⟩ | ⟨h2, rfl, hI2, hF2⟩)
  · skip
    refine ev_if_ne (tgt := 35) dX7_pointsOf_28 (by decide) (fun _ => ?_) (fun c => absurd c (by decide))
    refine ev_aload_n dX7_pointsOf_35 rfl rfl ?_
    refine ev_getR (b := 73) dX7_pointsOf_36 fl_X7_31 (ly_k hI2.ly 65 rfl) (ly_r hI2.ly 36 rfl) ?_
    refine ev_iload_n dX7_pointsOf_39 rfl rfl ?_
    refine ev_iald (v := A 73 T) dX7_pointsOf_40 (ly_k hI2.ly 73 rfl) (am_ixn (by omega) (by decide)) (hI2.rd 73 T rfl) ?_
    refine ev_iload_n dX7_pointsOf_41 rfl rfl ?_
    refine ev_icmp_ne (tgt := 51) dX7_pointsOf_42 (by decide) (fun c3 => ?_) (fun c3 => ?_)
    · skip
      refine ev_iload_n dX7_pointsOf_51 rfl rfl ?_
      refine ev_reti dX7_pointsOf_52 rfl (Nat.zero_le _) (Nat.zero_le _) ?_
      exact ⟨by unfold s_ps2; simp [h2, c3, s_pt], hI2, (fr_M.tr (fr_M.tr fr_M.rf hF1) hF2)⟩
    · skip
      refine ev_iconst (v := 2) dX7_pointsOf_45 (by decide) ?_
      refine ev_iload_n dX7_pointsOf_46 rfl rfl ?_
      refine ev_imul (v := 2 * (s_as A 1 (s_nm 0 (A 72 q) 0 (A 71 q) (nI q) 0))) dX7_pointsOf_47 rfl ?_
      refine ev_goto (tgt := 52) dX7_pointsOf_48 (by decide) ?_
      refine ev_reti dX7_pointsOf_52 rfl (Nat.zero_le _) (Nat.zero_le _) ?_
      exact ⟨by unfold s_ps2; simp [h2, c3, s_pt], hI2, (fr_M.tr (fr_M.tr fr_M.rf hF1) hF2)⟩
  · skip
    refine ev_if_ne (tgt := 35) dX7_pointsOf_28 (by decide) (fun c => absurd (by decide) c) (fun _ => ?_)
    refine ev_iconst (v := 0) dX7_pointsOf_31 (by decide) ?_
    refine ev_goto (tgt := 52) dX7_pointsOf_32 (by decide) ?_
    refine ev_reti dX7_pointsOf_52 rfl (Nat.zero_le _) (Nat.zero_le _) ?_
    exact ⟨by unfold s_ps2; simp [h2, s_pt], hI2, (fr_M.tr (fr_M.tr fr_M.rf hF1) hF2)⟩

theorem s_ps2T {A : am_S} {T m q : Nat} (h : m.testBit q = true) : s_wo A (fun q => m.testBit q && s_rt A (s_se A T) q) (A 73 T) q + s_ps2 A T q = s_wo A (fun q => m.testBit q && s_rt A (s_se A T) q) (A 73 T) (q + 1) := by
  unfold s_ps2
  cases hr : s_rt A (s_se A T) q with
  | false =>
    rw [s_woF (by show (_ && _) = false; rw [hr, Bool.and_false])]
    exact Int32.add_zero _
  | true =>
    rw [s_woT (by show (_ && _) = true; rw [hr, h]; rfl)]
    rfl
theorem s_ps2F {A : am_S} {T m q : Nat} (h : m.testBit q = false) : s_wo A (fun q => m.testBit q && s_rt A (s_se A T) q) (A 73 T) q + 0 = s_wo A (fun q => m.testBit q && s_rt A (s_se A T) q) (A 73 T) (q + 1) := by
  rw [s_woF (by show (_ && _) = false; rw [h, Bool.false_and])]
  exact Int32.add_zero _
set_option maxHeartbeats 400000 in
set_option maxRecDepth 100000 in
theorem c_X7_scoreOf (G : am_G) (D : Nat) (A : am_S) (σ : am_M) (hA : wf_A A) (hI : iv_M A σ) (T m : Nat) (hT : T < 3) (hm : m < 2 ^ 31) : am_Mt G (D + 7) mX7_scoreOf [.ref 65, .int (nI T), .int (nI m)] σ 0 0 (am_qM A (.int (s_sc A (s_se A T) (A 73 T) (fun q => m.testBit q))) σ) := by
  have b7 := wf_np7 hA
  have b8 := wf_nq8 hA
  have b6 := wf_nt6 hA
  have b61 := wf_nt1 hA
  have b160 := wf_tp160 hA
  have brl := wf_rlt hA
  refine am_of moX7_scoreOf (Nat.le_of_ble_eq_true rfl) ?_
  show am_Ev G mX7_scoreOf (am_R (D + 7) 0 0) 0 0 (am_qM A (.int (s_sc A (s_se A T) (A 73 T) (fun q => m.testBit q))) σ) 0 [(0, .ref 65), (1, .int (nI T)), (2, .int (nI m))] [] σ 0 0
  have lp : ∀ (f : Nat) (q : Nat) (σ1 : am_M), (q ≤ s_nq A) → (iv_M A σ1) → (fr_M σ σ1) → s_nq A - q < f → am_Ev G mX7_scoreOf (am_R (D + 7) 0 0) 0 0 (am_qM A (.int (s_sc A (s_se A T) (A 73 T) (fun q => m.testBit q))) σ) 5 [(0, .ref 65), (1, .int (nI T)), (2, .int (nI m)), (3, .int (s_wo A (fun q => m.testBit q && s_rt A (s_se A T) q) (A 73 T) q)), (4, .int (nI q))] [] σ1 0 0 := by
    intro f
    induction f with
    | zero => intro q σ1 hq hI hF hf; exact absurd hf (Nat.not_lt_zero _)
    | succ f ih =>
      intro q σ1 hq hI hF hf
      refine ev_iload dX7_scoreOf_5 rfl ?_
      refine ev_aload_n dX7_scoreOf_7 rfl rfl ?_
      refine ev_getI (v := nI (s_nq A)) dX7_scoreOf_8 fl_X7_94 (ly_k hI.ly 65 rfl) ((hI.rd 65 6 rfl).trans (wf_nq hA)) ?_
      refine ev_icmp_ge (tgt := 44) dX7_scoreOf_11 (by decide) (fun c1 => ?_) (fun c1 => ?_)
      · skip
        have c1n : (s_nq A) ≤ q := (nI_leI (a := (s_nq A)) (b := q) (by omega) (by omega)).mp c1
        refine ev_iload_n dX7_scoreOf_44 rfl rfl ?_
        refine ev_reti dX7_scoreOf_45 rfl (Nat.zero_le _) (Nat.zero_le _) ?_
        have e : q = s_nq A := by omega
        subst e
        exact ⟨rfl, hI, hF⟩
      · skip
        have c1n : ¬ (s_nq A) ≤ q := fun zz => c1 ((nI_leI (a := (s_nq A)) (b := q) (by omega) (by omega)).mpr zz)
        refine ev_iload_n dX7_scoreOf_14 rfl rfl ?_
        refine ev_iload_n dX7_scoreOf_15 rfl rfl ?_
        refine ev_iload dX7_scoreOf_16 rfl ?_
        refine ev_ishr (v := (nI m) >>> ((nI q) &&& 31)) dX7_scoreOf_18 rfl ?_
        refine ev_iconst (v := 1) dX7_scoreOf_19 (by decide) ?_
        refine ev_iand (v := nI (if m.testBit q then 1 else 0)) dX7_scoreOf_20 (mk_bit hm (by omega)) ?_
        cases htb : m.testBit q with
        | true =>
          rw [if_pos rfl]
          change am_Ev G mX7_scoreOf (am_R (D + 7) 0 0) 0 0 (am_qM A (.int (s_sc A (s_se A T) (A 73 T) (fun q => m.testBit q))) σ) 21 [(0, .ref 65), (1, .int (nI T)), (2, .int (nI m)), (3, .int (s_wo A (fun q => m.testBit q && s_rt A (s_se A T) q) (A 73 T) q)), (4, .int (nI q))] [.int 1, .int (s_wo A (fun q => m.testBit q && s_rt A (s_se A T) q) (A 73 T) q)] σ1 0 0
          refine ev_iconst (v := 1) dX7_scoreOf_21 (by decide) ?_
          refine ev_icmp_ne (tgt := 35) dX7_scoreOf_22 (by decide) (fun c => absurd (by decide) c) (fun _ => ?_)
          refine ev_aload_n dX7_scoreOf_25 rfl rfl ?_
          refine ev_iload_n dX7_scoreOf_26 rfl rfl ?_
          refine ev_iload dX7_scoreOf_27 rfl ?_
          refine ev_callV (as := [.int (nI T), .int (nI q)]) (st := [.int (s_wo A (fun q => m.testBit q && s_rt A (s_se A T) q) (A 73 T) q)]) dX7_scoreOf_29 mfX7_pointsOf lk_X7_208 (ly_k hI.ly 65 rfl) (by decide) rfl (c_X7_pointsOf G D A σ1 hA hI T q (by omega) (by omega)) rfl rfl (Nat.le_of_ble_eq_true rfl) (am_hR (by omega) (by decide)) ⟨Nat.le_refl _, Nat.le_refl _⟩ ?_
          rintro _ σ2 ⟨rfl, hI2, hF2⟩
          refine ev_goto (tgt := 36) dX7_scoreOf_32 (by decide) ?_
          refine ev_iadd (v := s_wo A (fun q => m.testBit q && s_rt A (s_se A T) q) (A 73 T) (q + 1)) dX7_scoreOf_36 (s_ps2T htb) ?_
          refine ev_istore_n (lv' := [(0, .ref 65), (1, .int (nI T)), (2, .int (nI m)), (3, .int (s_wo A (fun q => m.testBit q && s_rt A (s_se A T) q) (A 73 T) (q + 1))), (4, .int (nI q))]) dX7_scoreOf_37 rfl (by decide) rfl ?_
          refine ev_iinc (lv' := [(0, .ref 65), (1, .int (nI T)), (2, .int (nI m)), (3, .int (s_wo A (fun q => m.testBit q && s_rt A (s_se A T) q) (A 73 T) (q + 1))), (4, .int (nI (q + 1)))]) (v := nI (q + 1)) dX7_scoreOf_38 rfl (nI_1 _) (by decide) rfl ?_
          refine ev_goto (tgt := 5) dX7_scoreOf_41 (by decide) ?_
          exact ih (q + 1) σ2 (by omega) hI2 (fr_M.tr hF hF2) (by omega)
        | false =>
          rw [if_neg (by decide)]
          change am_Ev G mX7_scoreOf (am_R (D + 7) 0 0) 0 0 (am_qM A (.int (s_sc A (s_se A T) (A 73 T) (fun q => m.testBit q))) σ) 21 [(0, .ref 65), (1, .int (nI T)), (2, .int (nI m)), (3, .int (s_wo A (fun q => m.testBit q && s_rt A (s_se A T) q) (A 73 T) q)), (4, .int (nI q))] [.int 0, .int (s_wo A (fun q => m.testBit q && s_rt A (s_se A T) q) (A 73 T) q)] σ1 0 0
          refine ev_iconst (v := 1) dX7_scoreOf_21 (by decide) ?_
          refine ev_icmp_ne (tgt := 35) dX7_scoreOf_22 (by decide) (fun _ => ?_) (fun c => absurd c (by decide))
          refine ev_iconst (v := 0) dX7_scoreOf_35 (by decide) ?_
          refine ev_iadd (v := s_wo A (fun q => m.testBit q && s_rt A (s_se A T) q) (A 73 T) (q + 1)) dX7_scoreOf_36 (s_ps2F htb) ?_
          refine ev_istore_n (lv' := [(0, .ref 65), (1, .int (nI T)), (2, .int (nI m)), (3, .int (s_wo A (fun q => m.testBit q && s_rt A (s_se A T) q) (A 73 T) (q + 1))), (4, .int (nI q))]) dX7_scoreOf_37 rfl (by decide) rfl ?_
          refine ev_iinc (lv' := [(0, .ref 65), (1, .int (nI T)), (2, .int (nI m)), (3, .int (s_wo A (fun q => m.testBit q && s_rt A (s_se A T) q) (A 73 T) (q + 1))), (4, .int (nI (q + 1)))]) (v := nI (q + 1)) dX7_scoreOf_38 rfl (nI_1 _) (by decide) rfl ?_
          refine ev_goto (tgt := 5) dX7_scoreOf_41 (by decide) ?_
          exact ih (q + 1) σ1 (by omega) hI hF (by omega)
  refine ev_iconst (v := 0) dX7_scoreOf_0 (by decide) ?_
  refine ev_istore_n (lv' := [(0, .ref 65), (1, .int (nI T)), (2, .int (nI m)), (3, .int 0)]) dX7_scoreOf_1 rfl (by decide) rfl ?_
  refine ev_iconst (v := 0) dX7_scoreOf_2 (by decide) ?_
  refine ev_istore (lv' := [(0, .ref 65), (1, .int (nI T)), (2, .int (nI m)), (3, .int 0), (4, .int 0)]) dX7_scoreOf_3 (by decide) rfl ?_
  exact lp _ 0 σ (by omega) hI fr_M.rf (Nat.lt_succ_self _)

set_option maxHeartbeats 400000 in
set_option maxRecDepth 100000 in
theorem c_X7_all (G : am_G) (D : Nat) (A : am_S) (σ : am_M) (hA : wf_A A) (hI : iv_M A σ)  : am_Mt G D mX7_all [.ref 65] σ 0 0 (am_q (.int (nI (2 ^ s_nq A - 1))) σ) := by
  have b7 := wf_np7 hA
  have b8 := wf_nq8 hA
  have b6 := wf_nt6 hA
  have b61 := wf_nt1 hA
  have b160 := wf_tp160 hA
  have brl := wf_rlt hA
  refine am_of moX7_all (Nat.le_of_ble_eq_true rfl) ?_
  show am_Ev G mX7_all (am_R D 0 0) 0 0 (am_q (.int (nI (2 ^ s_nq A - 1))) σ) 0 [(0, .ref 65)] [] σ 0 0
  refine ev_iconst (v := 1) dX7_all_0 (by decide) ?_
  refine ev_aload_n dX7_all_1 rfl rfl ?_
  refine ev_getI (v := nI (s_nq A)) dX7_all_2 fl_X7_94 (ly_k hI.ly 65 rfl) ((hI.rd 65 6 rfl).trans (wf_nq hA)) ?_
  refine ev_ishl (v := 1 <<< ((nI (s_nq A)) &&& 31)) dX7_all_5 rfl ?_
  refine ev_iconst (v := 1) dX7_all_6 (by decide) ?_
  refine ev_isub (v := nI (2 ^ s_nq A - 1)) dX7_all_7 (s_all (by omega)) ?_
  refine ev_reti dX7_all_8 rfl (Nat.zero_le _) (Nat.zero_le _) ?_
  exact ⟨rfl, rfl⟩

set_option maxHeartbeats 400000 in
set_option maxRecDepth 100000 in
theorem c_X7_scoreNow (G : am_G) (D : Nat) (A : am_S) (σ : am_M) (hA : wf_A A) (hI : iv_M A σ) (T : Nat) (hT : T < 3) : am_Mt G (D + 8) mX7_scoreNow [.ref 65, .int (nI T)] σ 0 0 (am_qM A (.int (s_now A T)) σ) := by
  have b7 := wf_np7 hA
  have b8 := wf_nq8 hA
  have b6 := wf_nt6 hA
  have b61 := wf_nt1 hA
  have b160 := wf_tp160 hA
  have brl := wf_rlt hA
  refine am_of moX7_scoreNow (Nat.le_of_ble_eq_true rfl) ?_
  show am_Ev G mX7_scoreNow (am_R (D + 8) 0 0) 0 0 (am_qM A (.int (s_now A T)) σ) 0 [(0, .ref 65), (1, .int (nI T))] [] σ 0 0
  refine ev_aload_n dX7_scoreNow_0 rfl rfl ?_
  refine ev_iload_n dX7_scoreNow_1 rfl rfl ?_
  refine ev_aload_n dX7_scoreNow_2 rfl rfl ?_
  refine ev_callV (as := []) (st := [.int (nI T), .ref 65]) dX7_scoreNow_3 mfX7_all lk_X7_211 (ly_k hI.ly 65 rfl) (by decide) rfl (c_X7_all G (D + 7) A σ hA hI ) rfl rfl (Nat.le_of_ble_eq_true rfl) (am_hR (by omega) (by decide)) ⟨Nat.le_refl _, Nat.le_refl _⟩ ?_
  rintro _ _ ⟨rfl, rfl⟩
  refine ev_callV (as := [.int (nI T), .int (nI (2 ^ s_nq A - 1))]) (st := []) dX7_scoreNow_6 mfX7_scoreOf lk_X7_214 (ly_k hI.ly 65 rfl) (by decide) rfl (c_X7_scoreOf G D A σ hA hI T (2 ^ s_nq A - 1) (by omega) (Nat.lt_of_le_of_lt (Nat.sub_le _ _) (Nat.pow_lt_pow_right (by decide) (by omega)))) rfl rfl (Nat.le_of_ble_eq_true rfl) (am_hR (by omega) (by decide)) ⟨Nat.le_refl _, Nat.le_refl _⟩ ?_
  rintro _ σ1 ⟨rfl, hI1, hF1⟩
  refine ev_reti dX7_scoreNow_9 rfl (Nat.zero_le _) (Nat.zero_le _) ?_
  exact ⟨by unfold s_now; rw [← s_scT], hI1, (fr_M.tr fr_M.rf hF1)⟩

