/-! the class: reckoning -/
theorem s_nowW {A : am_S} {T : Nat} : s_wo A (fun q => (mk_m (s_rt A (s_se A T)) (s_nq A)).testBit q) (A 73 T) (s_nq A) = s_now A T := by
  unfold s_now s_sc
  refine s_wo_cg fun q hq => ?_
  rw [mk_tb]
  simp [hq]
theorem s_scW {A : am_S} {j : Int32} {S : Nat → Bool} : s_wo A (fun q => (mk_m (s_rt A S) (s_nq A)).testBit q) j (s_nq A) = s_sc A S j (fun _ => true) := by
  unfold s_sc
  refine s_wo_cg fun q hq => ?_
  rw [mk_tb]
  simp [hq]
theorem s_rtM {A : am_S} {T q : Nat} : s_rt A (fun p => (mk_m (s_se A T) (s_np A)).testBit p) q = s_rt A (s_se A T) q := s_rt_cg fun p hp => by rw [mk_tb]; simp [hp]
theorem s_rtMm {A : am_S} {T : Nat} : mk_m (s_rt A (fun p => (mk_m (s_se A T) (s_np A)).testBit p)) (s_nq A) = mk_m (s_rt A (s_se A T)) (s_nq A) := mk_ext fun q _ => s_rtM
theorem mk_np {A : am_S} {f : Nat → Bool} : mk_m f (s_np A) < 2 ^ s_np A := mk_lt f (s_np A)
set_option maxHeartbeats 400000 in
set_option maxRecDepth 100000 in
theorem c_X0_reckonPoints (G : am_G) (D : Nat) (A : am_S) (σ : am_M) (hA : wf_A A) (hX : iv_X A σ) (x : Nat) (hx : σ.2.2 37 (s_rl A) = some x) : am_Mt G (D + 3) mX0_reckonPoints [.ref 54, .ref x, .ref 34, .ref 35, .int (nI (s_nq A))] σ 0 0 (am_qR0 A (cp_X A 0) σ) := by
  have b7 := wf_np7 hA
  have b8 := wf_nq8 hA
  have b6 := wf_nt6 hA
  have b61 := wf_nt1 hA
  have b160 := wf_tp160 hA
  have brl := wf_rlt hA
  refine am_of moX0_reckonPoints (Nat.le_of_ble_eq_true rfl) ?_
  show am_Ev G mX0_reckonPoints (am_R (D + 3) 0 0) 0 0 (am_qR0 A (cp_X A 0) σ) 0 [(0, .ref 54), (1, .ref x), (2, .ref 34), (3, .ref 35), (4, .int (nI (s_nq A)))] [] σ 0 0
  have lp : ∀ (f : Nat) (q : Nat) (σ1 : am_M), (q ≤ s_nq A) → (cz_X A q σ1) → (iv_X A σ1) → (fr_C σ σ1) → s_nq A - q < f → am_Ev G mX0_reckonPoints (am_R (D + 3) 0 0) 0 0 (am_qR0 A (cp_X A 0) σ) 25 [(0, .ref 54), (1, .ref x), (2, .ref 34), (3, .ref 35), (4, .int (nI (s_nq A))), (5, .int (nI q))] [] σ1 0 0 := by
    intro f
    induction f with
    | zero => intro q σ1 hq hz hX1 hF hf; exact absurd hf (Nat.not_lt_zero _)
    | succ f ih =>
      intro q σ1 hq hz hX1 hF hf
      have hx1 : σ1.2.2 37 (s_rl A) = some x := (congrFun (congrFun hF.2.1 37) _).trans hx
      refine ev_iload dX0_reckonPoints_25 rfl ?_
      refine ev_aload_n dX0_reckonPoints_27 rfl rfl ?_
      refine ev_getI (v := nI (s_nq A)) dX0_reckonPoints_28 fl_X0_36 (ly_k hX1.ly 54 rfl) (hz.1.trans (wf_nq hA)) ?_
      refine ev_icmp_ge (tgt := 99) dX0_reckonPoints_31 (by decide) (fun c1 => ?_) (fun c1 => ?_)
      · skip
        have c1n : (s_nq A) ≤ q := (nI_leI (a := (s_nq A)) (b := q) (by omega) (by omega)).mp c1
        refine ev_retv dX0_reckonPoints_99 rfl (Nat.zero_le _) (Nat.zero_le _) ?_
        exact ⟨rfl, hX1, hF, hz.e (by omega)⟩
      · skip
        have c1n : ¬ (s_nq A) ≤ q := fun zz => c1 ((nI_leI (a := (s_nq A)) (b := q) (by omega) (by omega)).mpr zz)
        refine ev_aload_n dX0_reckonPoints_34 rfl rfl ?_
        refine ev_getR (b := 56) dX0_reckonPoints_35 fl_X0_15 (ly_k hX1.ly 54 rfl) (ly_r hX1.ly 26 rfl) ?_
        refine ev_iload dX0_reckonPoints_38 rfl ?_
        refine ev_iconst (v := 0) dX0_reckonPoints_40 (by decide) ?_
        refine ev_iast dX0_reckonPoints_41 (ly_k hX1.ly 56 rfl) (am_ixn (by omega) (by decide)) ?_
        refine ev_aload_n dX0_reckonPoints_42 rfl rfl ?_
        refine ev_getR (b := 58) dX0_reckonPoints_43 fl_X0_23 (ly_k (hX1.sc (by omega)).ly 54 rfl) (ly_r (hX1.sc (by omega)).ly 28 rfl) ?_
        refine ev_iconst (v := 0) dX0_reckonPoints_46 (by decide) ?_
        refine ev_aload_n dX0_reckonPoints_47 rfl rfl ?_
        refine ev_iload dX0_reckonPoints_48 rfl ?_
        refine ev_iald (v := A 72 q) dX0_reckonPoints_50 (ly_k (hX1.sc (by omega)).ly 35 rfl) (am_ixn (by omega) (by decide)) ((hX1.sc (by omega)).r35 q) ?_
        refine ev_iconst (v := 0) dX0_reckonPoints_51 (by decide) ?_
        refine ev_callSN (as := [.ref 58, .int 0, .int (A 72 q), .int 0]) (st := []) dX0_reckonPoints_52 mfX6_name lk_X0_40 (c_X6_name G (D + 2) A (am_sI σ1 56 q 0) (hX1.sc (by omega)) 58 (ly_k (hX1.sc (by omega)).ly 58 rfl) (by decide) 0 (A 72 q) 0) rfl rfl (Nat.le_of_ble_eq_true rfl) (am_hR (by omega) (by decide)) ⟨Nat.le_refl _, Nat.le_refl _⟩ ?_
        rintro _ _ ⟨rfl, rfl⟩
        refine ev_aload_n dX0_reckonPoints_55 rfl rfl ?_
        refine ev_getR (b := 58) dX0_reckonPoints_56 fl_X0_23 (ly_k (iv_X.sc (by omega) (iv_X.sc (by omega) (iv_X.sc (by omega) (hX1.sc (by omega))))).ly 54 rfl) (ly_r (iv_X.sc (by omega) (iv_X.sc (by omega) (iv_X.sc (by omega) (hX1.sc (by omega))))).ly 28 rfl) ?_
        refine ev_aload_n dX0_reckonPoints_59 rfl rfl ?_
        refine ev_iload dX0_reckonPoints_60 rfl ?_
        refine ev_iald (v := A 71 q) dX0_reckonPoints_62 (ly_k (iv_X.sc (by omega) (iv_X.sc (by omega) (iv_X.sc (by omega) (hX1.sc (by omega))))).ly 34 rfl) (am_ixn (by omega) (by decide)) ((iv_X.sc (by omega) (iv_X.sc (by omega) (iv_X.sc (by omega) (hX1.sc (by omega))))).r34 q) ?_
        refine ev_iload dX0_reckonPoints_63 rfl ?_
        refine ev_iconst (v := 0) dX0_reckonPoints_65 (by decide) ?_
        refine ev_callSN (as := [.ref 58, .int (A 71 q), .int (nI q), .int 0]) (st := []) dX0_reckonPoints_66 mfX6_nameMore lk_X0_44 (c_X6_nameMore G (D + 2) A (am_sI (am_sI (am_sI (am_sI σ1 56 q 0) 58 0 0) 58 1 (A 72 q)) 58 2 0) (iv_X.sc (by omega) (iv_X.sc (by omega) (iv_X.sc (by omega) (hX1.sc (by omega))))) 58 (ly_k (iv_X.sc (by omega) (iv_X.sc (by omega) (iv_X.sc (by omega) (hX1.sc (by omega))))).ly 58 rfl) (by decide) (A 71 q) (nI q) 0) rfl rfl (Nat.le_of_ble_eq_true rfl) (am_hR (by omega) (by decide)) ⟨Nat.le_refl _, Nat.le_refl _⟩ ?_
        rintro _ _ ⟨rfl, rfl⟩
        refine ev_aload_n dX0_reckonPoints_69 rfl rfl ?_
        refine ev_getR (b := 57) dX0_reckonPoints_70 fl_X0_18 (ly_k (iv_X.sc (by omega) (iv_X.sc (by omega) (iv_X.sc (by omega) (iv_X.sc (by omega) (iv_X.sc (by omega) (iv_X.sc (by omega) (hX1.sc (by omega)))))))).ly 54 rfl) (ly_r (iv_X.sc (by omega) (iv_X.sc (by omega) (iv_X.sc (by omega) (iv_X.sc (by omega) (iv_X.sc (by omega) (iv_X.sc (by omega) (hX1.sc (by omega)))))))).ly 27 rfl) ?_
        refine ev_iload dX0_reckonPoints_73 rfl ?_
        refine ev_aload_n dX0_reckonPoints_75 rfl rfl ?_
        refine ev_ifnonnullR (tgt := 83) dX0_reckonPoints_76 (by decide) ?_
        refine ev_aload_n dX0_reckonPoints_83 rfl rfl ?_
        refine ev_iconst (v := 1) dX0_reckonPoints_84 (by decide) ?_
        refine ev_aload_n dX0_reckonPoints_85 rfl rfl ?_
        refine ev_getR (b := 58) dX0_reckonPoints_86 fl_X0_23 (ly_k (iv_X.sc (by omega) (iv_X.sc (by omega) (iv_X.sc (by omega) (iv_X.sc (by omega) (iv_X.sc (by omega) (iv_X.sc (by omega) (hX1.sc (by omega)))))))).ly 54 rfl) (ly_r (iv_X.sc (by omega) (iv_X.sc (by omega) (iv_X.sc (by omega) (iv_X.sc (by omega) (iv_X.sc (by omega) (iv_X.sc (by omega) (hX1.sc (by omega)))))))).ly 28 rfl) ?_
        have hn2 : s_na (am_sI (am_sI (am_sI (am_sI (am_sI (am_sI (am_sI σ1 56 q 0) 58 0 0) 58 1 (A 72 q)) 58 2 0) 58 3 (A 71 q)) 58 4 (nI q)) 58 5 0) 58 (s_nm 0 (A 72 q) 0 (A 71 q) (nI q) 0) := by
          intro j hj
          rcases (show j = 0 ∨ j = 1 ∨ j = 2 ∨ j = 3 ∨ j = 4 ∨ j = 5 by omega) with rfl | rfl | rfl | rfl | rfl | rfl <;> rfl
        have hxx2 : (am_sI (am_sI (am_sI (am_sI (am_sI (am_sI (am_sI σ1 56 q 0) 58 0 0) 58 1 (A 72 q)) 58 2 0) 58 3 (A 71 q)) 58 4 (nI q)) 58 5 0).2.2 37 (s_rl A) = some x := hx1
        refine ev_callV (as := [.int 1, .ref 58]) (st := [.int (nI q), .ref 57]) dX0_reckonPoints_89 mfX5_says lk_X0_47 ((iv_X.sc (by omega) (iv_X.sc (by omega) (iv_X.sc (by omega) (iv_X.sc (by omega) (iv_X.sc (by omega) (iv_X.sc (by omega) (hX1.sc (by omega)))))))).tk brl hx1) (by decide) rfl (show am_Mt G _ mX5_says [.ref x, .int 1, .ref 58] (am_sI (am_sI (am_sI (am_sI (am_sI (am_sI (am_sI σ1 56 q 0) 58 0 0) 58 1 (A 72 q)) 58 2 0) 58 3 (A 71 q)) 58 4 (nI q)) 58 5 0) 0 0 (am_qT1 A (.int (s_pt A q)) (am_sI (am_sI (am_sI (am_sI (am_sI (am_sI (am_sI σ1 56 q 0) 58 0 0) 58 1 (A 72 q)) 58 2 0) 58 3 (A 71 q)) 58 4 (nI q)) 58 5 0)) from c_X5_says1 G D A (am_sI (am_sI (am_sI (am_sI (am_sI (am_sI (am_sI σ1 56 q 0) 58 0 0) 58 1 (A 72 q)) 58 2 0) 58 3 (A 71 q)) 58 4 (nI q)) 58 5 0) hA (iv_X.sc (by omega) (iv_X.sc (by omega) (iv_X.sc (by omega) (iv_X.sc (by omega) (iv_X.sc (by omega) (iv_X.sc (by omega) (hX1.sc (by omega)))))))) (s_rl A) x brl hxx2 58 (ly_k (iv_X.sc (by omega) (iv_X.sc (by omega) (iv_X.sc (by omega) (iv_X.sc (by omega) (iv_X.sc (by omega) (iv_X.sc (by omega) (hX1.sc (by omega)))))))).ly 58 rfl) (by decide) (s_nm 0 (A 72 q) 0 (A 71 q) (nI q) 0) hn2) rfl rfl (Nat.le_of_ble_eq_true rfl) (am_hR (by omega) (by decide)) ⟨Nat.le_refl _, Nat.le_refl _⟩ ?_
        rintro _ σ2 ⟨rfl, hX2, hF2⟩
        refine ev_iast dX0_reckonPoints_92 (ly_k hX2.ly 57 rfl) (am_ixn (by omega) (by decide)) ?_
        refine ev_iinc (lv' := [(0, .ref 54), (1, .ref x), (2, .ref 34), (3, .ref 35), (4, .int (nI (s_nq A))), (5, .int (nI (q + 1)))]) (v := nI (q + 1)) dX0_reckonPoints_93 rfl (nI_1 _) (by decide) rfl ?_
        refine ev_goto (tgt := 25) dX0_reckonPoints_96 (by decide) ?_
        exact ih (q + 1) (am_sI σ2 57 q (s_pt A q)) (by omega) (hz.s (hF2.2.2 54 (by decide) (by decide)) ((congrFun (hF2.2.2 56 (by decide) (by decide)) q).trans am_us) (fun y hy => (congrFun (hF2.2.2 56 (by decide) (by decide)) y).trans (am_uk hy)) am_us (fun y hy => (am_uk hy).trans (congrFun (hF2.2.2 57 (by decide) (by decide)) y))) (hX2.sc (by omega)) (fr_C.wr (by omega) (fr_C.tr (fr_C.wr (by omega) (fr_C.wr (by omega) (fr_C.wr (by omega) (fr_C.wr (by omega) (fr_C.wr (by omega) (fr_C.wr (by omega) (fr_C.wr (by omega) hF))))))) hF2.C)) (by omega)
  refine ev_aload_n dX0_reckonPoints_0 rfl rfl ?_
  refine ev_iload dX0_reckonPoints_1 rfl ?_
  refine ev_iconst (v := 0) dX0_reckonPoints_3 (by decide) ?_
  refine ev_bipush (v := 8) dX0_reckonPoints_4 (by decide) ?_
  refine ev_aload_n dX0_reckonPoints_6 rfl rfl ?_
  refine ev_alen (v := 8) dX0_reckonPoints_7 (ly_k hX.ly 34 rfl) (by decide) rfl ?_
  refine ev_aload_n dX0_reckonPoints_8 rfl rfl ?_
  refine ev_alen (v := 8) dX0_reckonPoints_9 (ly_k hX.ly 35 rfl) (by decide) rfl ?_
  refine ev_min (v := 8) dX0_reckonPoints_10 lk_X0_26 (by decide) (Nat.le_of_ble_eq_true rfl) ⟨Nat.le_add_left _ _, by simp only [am_R]; omega⟩ ⟨Nat.zero_le _, Nat.zero_le _⟩ ?_
  refine ev_min (v := 8) dX0_reckonPoints_13 lk_X0_26 (by decide) (Nat.le_of_ble_eq_true rfl) ⟨Nat.le_add_left _ _, by simp only [am_R]; omega⟩ ⟨Nat.zero_le _, Nat.zero_le _⟩ ?_
  refine ev_callSN (as := [.int (nI (s_nq A)), .int 0, .int 8]) (st := [.ref 54]) dX0_reckonPoints_16 mfX6_bounded lk_X0_32 (c_X6_bounded G (D + 1) σ (nI (s_nq A)) 0 8 (by decide)) rfl rfl (Nat.le_of_ble_eq_true rfl) (am_hR (by omega) (by decide)) ⟨Nat.le_refl _, Nat.le_refl _⟩ ?_
  rintro _ _ ⟨rfl, rfl⟩
  rw [show am_bd (nI (s_nq A)) 0 8 = nI (s_nq A) from am_bdN b8 (by decide)]
  refine ev_putI dX0_reckonPoints_19 fl_X0_36 rfl rfl (ly_k hX.ly 54 rfl) ?_
  refine ev_iconst (v := 0) dX0_reckonPoints_22 (by decide) ?_
  refine ev_istore (lv' := [(0, .ref 54), (1, .ref x), (2, .ref 34), (3, .ref 35), (4, .int (nI (s_nq A))), (5, .int 0)]) dX0_reckonPoints_23 (by decide) rfl ?_
  exact lp _ 0 (am_sI σ 54 4 (nI (s_nq A))) (Nat.zero_le _) (⟨am_rs.trans (wf_nq hA).symm, fun y hy => absurd hy (Nat.not_lt_zero _)⟩) (hX.sc (by omega)) (fr_C.wr (by omega) fr_C.rf) (Nat.lt_succ_self _)

set_option maxHeartbeats 400000 in
set_option maxRecDepth 100000 in
theorem c_X0_reckonPerson (G : am_G) (D : Nat) (A : am_S) (σ : am_M) (hA : wf_A A) (hX : iv_X A σ) (x : Nat) (hx : σ.2.2 37 (s_rl A) = some x) (P g : Nat) (hP : P < s_np A) (hg : σ.2.2 33 P = some g) (hz : cp_X A P σ) : am_Mt G (D + 3) mX0_reckonPerson [.ref 54, .ref x, .int (nI P), .ref g, .ref 34, .ref 35] σ 0 0 (am_qR0 A (cp_X A (P + 1)) σ) := by
  have b7 := wf_np7 hA
  have b8 := wf_nq8 hA
  have b6 := wf_nt6 hA
  have b61 := wf_nt1 hA
  have b160 := wf_tp160 hA
  have brl := wf_rlt hA
  refine am_of moX0_reckonPerson (Nat.le_of_ble_eq_true rfl) ?_
  show am_Ev G mX0_reckonPerson (am_R (D + 3) 0 0) 0 0 (am_qR0 A (cp_X A (P + 1)) σ) 0 [(0, .ref 54), (1, .ref x), (2, .int (nI P)), (3, .ref g), (4, .ref 34), (5, .ref 35)] [] σ 0 0
  have lp : ∀ (f : Nat) (q : Nat) (σ1 : am_M), (q ≤ s_nq A) → (cq_X A P q σ1) → (iv_X A σ1) → (fr_C σ σ1) → s_nq A - q < f → am_Ev G mX0_reckonPerson (am_R (D + 3) 0 0) 0 0 (am_qR0 A (cp_X A (P + 1)) σ) 22 [(0, .ref 54), (1, .ref x), (2, .int (nI P)), (3, .ref g), (4, .ref 34), (5, .ref 35), (6, .int (nI q))] [] σ1 0 0 := by
    intro f
    induction f with
    | zero => intro q σ1 hq hz hX1 hF hf; exact absurd hf (Nat.not_lt_zero _)
    | succ f ih =>
      intro q σ1 hq hz hX1 hF hf
      have hx1 : σ1.2.2 37 (s_rl A) = some x := (congrFun (congrFun hF.2.1 37) _).trans hx
      have hg1 : σ1.2.2 33 P = some g := (congrFun (congrFun hF.2.1 33) _).trans hg
      refine ev_iload dX0_reckonPerson_22 rfl ?_
      refine ev_aload_n dX0_reckonPerson_24 rfl rfl ?_
      refine ev_getI (v := nI (s_nq A)) dX0_reckonPerson_25 fl_X0_36 (ly_k hX1.ly 54 rfl) (hz.1.trans (wf_nq hA)) ?_
      refine ev_icmp_ge (tgt := 148) dX0_reckonPerson_28 (by decide) (fun c1 => ?_) (fun c1 => ?_)
      · skip
        have c1n : (s_nq A) ≤ q := (nI_leI (a := (s_nq A)) (b := q) (by omega) (by omega)).mp c1
        refine ev_retv dX0_reckonPerson_148 rfl (Nat.zero_le _) (Nat.zero_le _) ?_
        exact ⟨rfl, hX1, hF, hz.e (by omega)⟩
      · skip
        have c1n : ¬ (s_nq A) ≤ q := fun zz => c1 ((nI_leI (a := (s_nq A)) (b := q) (by omega) (by omega)).mpr zz)
        refine ev_iload dX0_reckonPerson_31 rfl ?_
        refine ev_aload dX0_reckonPerson_33 rfl ?_
        refine ev_alen (v := 8) dX0_reckonPerson_35 (ly_k hX1.ly 34 rfl) (by decide) rfl ?_
        refine ev_icmp_ge (tgt := 148) dX0_reckonPerson_36 (by decide) (fun c => absurd c (Int32.not_le.mpr (nI_lt (a := q) (b := 8) (by omega) (by decide)))) (fun _ => ?_)
        refine ev_iload dX0_reckonPerson_39 rfl ?_
        refine ev_aload dX0_reckonPerson_41 rfl ?_
        refine ev_alen (v := 8) dX0_reckonPerson_43 (ly_k hX1.ly 35 rfl) (by decide) rfl ?_
        refine ev_icmp_ge (tgt := 148) dX0_reckonPerson_44 (by decide) (fun c => absurd c (Int32.not_le.mpr (nI_lt (a := q) (b := 8) (by omega) (by decide)))) (fun _ => ?_)
        obtain ⟨⟨tq, htq, etq⟩, -⟩ := wf_qq hA q (by omega)
        refine ev_aload_n dX0_reckonPerson_47 rfl rfl ?_
        refine ev_aload dX0_reckonPerson_48 rfl ?_
        refine ev_iload dX0_reckonPerson_50 rfl ?_
        refine ev_iald (v := A 71 q) dX0_reckonPerson_52 (ly_k hX1.ly 34 rfl) (am_ixn (by omega) (by decide)) (hX1.r34 q) ?_
        refine ev_iload dX0_reckonPerson_53 rfl ?_
        refine ev_callV (as := [.int (A 71 q), .int (nI q)]) (st := []) dX0_reckonPerson_55 mfX1_knows lk_X0_51 (hX1.gk hP hg1) (by decide) rfl (by have hh := c_X1_knows G D A σ1 hA hX1 P g hP hg1 q tq (by omega) htq etq; rw [← etq] at hh; exact hh) rfl rfl (Nat.le_of_ble_eq_true rfl) (am_hR (by omega) (by decide)) ⟨Nat.le_refl _, Nat.le_refl _⟩ ?_
        rintro _ _ ⟨rfl, rfl⟩
        refine ev_istore (lv' := [(0, .ref 54), (1, .ref x), (2, .int (nI P)), (3, .ref g), (4, .ref 34), (5, .ref 35), (6, .int (nI q)), (7, .int (s_kn A P q))]) dX0_reckonPerson_58 (by decide) rfl ?_
        refine ev_iload dX0_reckonPerson_60 rfl ?_
        refine ev_aload dX0_reckonPerson_62 rfl ?_
        refine ev_iload dX0_reckonPerson_64 rfl ?_
        refine ev_iald (v := A 72 q) dX0_reckonPerson_66 (ly_k hX1.ly 35 rfl) (am_ixn (by omega) (by decide)) (hX1.r35 q) ?_
        refine ev_icmp_lt (tgt := 83) dX0_reckonPerson_67 (by decide) (fun c2 => ?_) (fun c2 => ?_)
        · skip
          have hcn : (fun p => s_cn A p q) P = false := by show decide _ = _; exact decide_eq_false (Int32.not_le.mpr c2)
          refine ev_aload_n dX0_reckonPerson_83 rfl rfl ?_
          refine ev_getR (b := 58) dX0_reckonPerson_84 fl_X0_23 (ly_k hX1.ly 54 rfl) (ly_r hX1.ly 28 rfl) ?_
          refine ev_iload dX0_reckonPerson_87 rfl ?_
          refine ev_aload dX0_reckonPerson_89 rfl ?_
          refine ev_iload dX0_reckonPerson_91 rfl ?_
          refine ev_iald (v := A 72 q) dX0_reckonPerson_93 (ly_k hX1.ly 35 rfl) (am_ixn (by omega) (by decide)) (hX1.r35 q) ?_
          refine ev_aload_n dX0_reckonPerson_94 rfl rfl ?_
          refine ev_aload dX0_reckonPerson_95 rfl ?_
          refine ev_iload dX0_reckonPerson_97 rfl ?_
          refine ev_iald (v := A 71 q) dX0_reckonPerson_99 (ly_k hX1.ly 34 rfl) (am_ixn (by omega) (by decide)) (hX1.r34 q) ?_
          refine ev_callV (as := [.int (A 71 q)]) (st := [.int (A 72 q), .int (s_kn A P q), .ref 58]) dX0_reckonPerson_100 mfX1_loudAt lk_X0_56 (hX1.gk hP hg1) (by decide) rfl (c_X1_loudAt G (D + 1) A σ1 hA hX1 P g hP hg1 (A 71 q)) rfl rfl (Nat.le_of_ble_eq_true rfl) (am_hR (by omega) (by decide)) ⟨Nat.le_refl _, Nat.le_refl _⟩ ?_
          rintro _ _ ⟨rfl, rfl⟩
          refine ev_callSN (as := [.ref 58, .int (s_kn A P q), .int (A 72 q), .int (s_ld A P (A 71 q))]) (st := []) dX0_reckonPerson_103 mfX6_name lk_X0_40 (c_X6_name G (D + 2) A σ1 hX1 58 (ly_k hX1.ly 58 rfl) (by decide) (s_kn A P q) (A 72 q) (s_ld A P (A 71 q))) rfl rfl (Nat.le_of_ble_eq_true rfl) (am_hR (by omega) (by decide)) ⟨Nat.le_refl _, Nat.le_refl _⟩ ?_
          rintro _ _ ⟨rfl, rfl⟩
          refine ev_aload_n dX0_reckonPerson_106 rfl rfl ?_
          refine ev_getR (b := 58) dX0_reckonPerson_107 fl_X0_23 (ly_k (iv_X.sc (by omega) (iv_X.sc (by omega) (iv_X.sc (by omega) hX1))).ly 54 rfl) (ly_r (iv_X.sc (by omega) (iv_X.sc (by omega) (iv_X.sc (by omega) hX1))).ly 28 rfl) ?_
          refine ev_aload dX0_reckonPerson_110 rfl ?_
          refine ev_iload dX0_reckonPerson_112 rfl ?_
          refine ev_iald (v := A 71 q) dX0_reckonPerson_114 (ly_k (iv_X.sc (by omega) (iv_X.sc (by omega) (iv_X.sc (by omega) hX1))).ly 34 rfl) (am_ixn (by omega) (by decide)) ((iv_X.sc (by omega) (iv_X.sc (by omega) (iv_X.sc (by omega) hX1))).r34 q) ?_
          refine ev_iload dX0_reckonPerson_115 rfl ?_
          refine ev_iload_n dX0_reckonPerson_117 rfl rfl ?_
          refine ev_callSN (as := [.ref 58, .int (A 71 q), .int (nI q), .int (nI P)]) (st := []) dX0_reckonPerson_118 mfX6_nameMore lk_X0_44 (c_X6_nameMore G (D + 2) A (am_sI (am_sI (am_sI σ1 58 0 (s_kn A P q)) 58 1 (A 72 q)) 58 2 (s_ld A P (A 71 q))) (iv_X.sc (by omega) (iv_X.sc (by omega) (iv_X.sc (by omega) hX1))) 58 (ly_k (iv_X.sc (by omega) (iv_X.sc (by omega) (iv_X.sc (by omega) hX1))).ly 58 rfl) (by decide) (A 71 q) (nI q) (nI P)) rfl rfl (Nat.le_of_ble_eq_true rfl) (am_hR (by omega) (by decide)) ⟨Nat.le_refl _, Nat.le_refl _⟩ ?_
          rintro _ _ ⟨rfl, rfl⟩
          refine ev_aload_n dX0_reckonPerson_121 rfl rfl ?_
          refine ev_getR (b := 55) dX0_reckonPerson_122 fl_X0_9 (ly_k (iv_X.sc (by omega) (iv_X.sc (by omega) (iv_X.sc (by omega) (iv_X.sc (by omega) (iv_X.sc (by omega) (iv_X.sc (by omega) hX1)))))).ly 54 rfl) (ly_r (iv_X.sc (by omega) (iv_X.sc (by omega) (iv_X.sc (by omega) (iv_X.sc (by omega) (iv_X.sc (by omega) (iv_X.sc (by omega) hX1)))))).ly 25 rfl) ?_
          refine ev_iload_n dX0_reckonPerson_125 rfl rfl ?_
          refine ev_bipush (v := 8) dX0_reckonPerson_126 (by decide) ?_
          refine ev_imul (v := nI (8 * P)) dX0_reckonPerson_128 x_m8 ?_
          refine ev_iload dX0_reckonPerson_129 rfl ?_
          refine ev_iadd (v := nI (8 * P + q)) dX0_reckonPerson_131 (nI_add (8 * P) q) ?_
          refine ev_aload_n dX0_reckonPerson_132 rfl rfl ?_
          refine ev_iconst (v := 0) dX0_reckonPerson_133 (by decide) ?_
          refine ev_aload_n dX0_reckonPerson_134 rfl rfl ?_
          refine ev_getR (b := 58) dX0_reckonPerson_135 fl_X0_23 (ly_k (iv_X.sc (by omega) (iv_X.sc (by omega) (iv_X.sc (by omega) (iv_X.sc (by omega) (iv_X.sc (by omega) (iv_X.sc (by omega) hX1)))))).ly 54 rfl) (ly_r (iv_X.sc (by omega) (iv_X.sc (by omega) (iv_X.sc (by omega) (iv_X.sc (by omega) (iv_X.sc (by omega) (iv_X.sc (by omega) hX1)))))).ly 28 rfl) ?_
          have hn3 : s_na (am_sI (am_sI (am_sI (am_sI (am_sI (am_sI σ1 58 0 (s_kn A P q)) 58 1 (A 72 q)) 58 2 (s_ld A P (A 71 q))) 58 3 (A 71 q)) 58 4 (nI q)) 58 5 (nI P)) 58 (s_nm (s_kn A P q) (A 72 q) (s_ld A P (A 71 q)) (A 71 q) (nI q) (nI P)) := by
            intro j hj
            rcases (show j = 0 ∨ j = 1 ∨ j = 2 ∨ j = 3 ∨ j = 4 ∨ j = 5 by omega) with rfl | rfl | rfl | rfl | rfl | rfl <;> rfl
          have hxx3 : (am_sI (am_sI (am_sI (am_sI (am_sI (am_sI σ1 58 0 (s_kn A P q)) 58 1 (A 72 q)) 58 2 (s_ld A P (A 71 q))) 58 3 (A 71 q)) 58 4 (nI q)) 58 5 (nI P)).2.2 37 (s_rl A) = some x := hx1
          refine ev_callV (as := [.int 0, .ref 58]) (st := [.int (nI (8 * P + q)), .ref 55]) dX0_reckonPerson_138 mfX5_says lk_X0_47 ((iv_X.sc (by omega) (iv_X.sc (by omega) (iv_X.sc (by omega) (iv_X.sc (by omega) (iv_X.sc (by omega) (iv_X.sc (by omega) hX1)))))).tk brl hx1) (by decide) rfl (show am_Mt G _ mX5_says [.ref x, .int 0, .ref 58] (am_sI (am_sI (am_sI (am_sI (am_sI (am_sI σ1 58 0 (s_kn A P q)) 58 1 (A 72 q)) 58 2 (s_ld A P (A 71 q))) 58 3 (A 71 q)) 58 4 (nI q)) 58 5 (nI P)) 0 0 (am_qT1 A (.int (s_wt A P q)) (am_sI (am_sI (am_sI (am_sI (am_sI (am_sI σ1 58 0 (s_kn A P q)) 58 1 (A 72 q)) 58 2 (s_ld A P (A 71 q))) 58 3 (A 71 q)) 58 4 (nI q)) 58 5 (nI P))) from c_X5_says0 G D A (am_sI (am_sI (am_sI (am_sI (am_sI (am_sI σ1 58 0 (s_kn A P q)) 58 1 (A 72 q)) 58 2 (s_ld A P (A 71 q))) 58 3 (A 71 q)) 58 4 (nI q)) 58 5 (nI P)) hA (iv_X.sc (by omega) (iv_X.sc (by omega) (iv_X.sc (by omega) (iv_X.sc (by omega) (iv_X.sc (by omega) (iv_X.sc (by omega) hX1)))))) (s_rl A) x brl hxx3 58 (ly_k (iv_X.sc (by omega) (iv_X.sc (by omega) (iv_X.sc (by omega) (iv_X.sc (by omega) (iv_X.sc (by omega) (iv_X.sc (by omega) hX1)))))).ly 58 rfl) (by decide) (s_nm (s_kn A P q) (A 72 q) (s_ld A P (A 71 q)) (A 71 q) (nI q) (nI P)) hn3) rfl rfl (Nat.le_of_ble_eq_true rfl) (am_hR (by omega) (by decide)) ⟨Nat.le_refl _, Nat.le_refl _⟩ ?_
          rintro _ σ3 ⟨rfl, hX3, hF3⟩
          refine ev_iast dX0_reckonPerson_141 (ly_k hX3.ly 55 rfl) (am_ixn (by omega) (by decide)) ?_
          refine ev_iinc (lv' := [(0, .ref 54), (1, .ref x), (2, .int (nI P)), (3, .ref g), (4, .ref 34), (5, .ref 35), (6, .int (nI (q + 1))), (7, .int (s_kn A P q))]) (v := nI (q + 1)) dX0_reckonPerson_142 rfl (nI_1 _) (by decide) rfl ?_
          refine ev_goto (tgt := 22) dX0_reckonPerson_145 (by decide) ?_
          refine ev_keep (lv' := [(0, .ref 54), (1, .ref x), (2, .int (nI P)), (3, .ref g), (4, .ref 34), (5, .ref 35), (6, .int (nI (q + 1)))]) [0, 1, 2, 3, 4, 5, 6] rfl ?_
          exact ih (q + 1) (am_sI σ3 55 (8 * P + q) (s_wt A P q)) (by omega) (cq_X.s hz b8 (by omega) (hF3.2.2 54 (by decide) (by decide)) (hF3.2.2 57 (by decide) (by decide)) ((congrFun (hF3.2.2 56 (by decide) (by decide)) q).trans ((hz.a (by omega)).trans (congrArg nI (mk_f (f := fun p => s_cn A p q) hcn)))) (fun y hy => congrFun (hF3.2.2 56 (by decide) (by decide)) y) am_us (fun y hy => (am_uk hy).trans (congrFun (hF3.2.2 55 (by decide) (by decide)) y))) (hX3.sc (by omega)) (fr_C.wr (by omega) (fr_C.tr (fr_C.wr (by omega) (fr_C.wr (by omega) (fr_C.wr (by omega) (fr_C.wr (by omega) (fr_C.wr (by omega) (fr_C.wr (by omega) hF)))))) hF3.C)) (by omega)
        · skip
          have hcn : (fun p => s_cn A p q) P = true := by show decide _ = _; exact decide_eq_true (Int32.not_lt.mp c2)
          refine ev_aload_n dX0_reckonPerson_70 rfl rfl ?_
          refine ev_getR (b := 56) dX0_reckonPerson_71 fl_X0_15 (ly_k hX1.ly 54 rfl) (ly_r hX1.ly 26 rfl) ?_
          refine ev_iload dX0_reckonPerson_74 rfl ?_
          refine ev_dup2 dX0_reckonPerson_76 rfl rfl ?_
          refine ev_iald (v := nI (mk_m (fun p => s_cn A p q) P)) dX0_reckonPerson_77 (ly_k hX1.ly 56 rfl) (am_ixn (by omega) (by decide)) (hz.a (by omega)) ?_
          refine ev_iconst (v := 1) dX0_reckonPerson_78 (by decide) ?_
          refine ev_iload_n dX0_reckonPerson_79 rfl rfl ?_
          refine ev_ishl (v := 1 <<< ((nI P) &&& 31)) dX0_reckonPerson_80 rfl ?_
          refine ev_ior (v := nI (mk_m (fun p => s_cn A p q) (P + 1))) dX0_reckonPerson_81 (by rw [mk_o1 (by omega), mk_t (f := fun p => s_cn A p q) hcn]) ?_
          refine ev_iast dX0_reckonPerson_82 (ly_k hX1.ly 56 rfl) (am_ixn (by omega) (by decide)) ?_
          refine ev_aload_n dX0_reckonPerson_83 rfl rfl ?_
          refine ev_getR (b := 58) dX0_reckonPerson_84 fl_X0_23 (ly_k (hX1.sc (by omega)).ly 54 rfl) (ly_r (hX1.sc (by omega)).ly 28 rfl) ?_
          refine ev_iload dX0_reckonPerson_87 rfl ?_
          refine ev_aload dX0_reckonPerson_89 rfl ?_
          refine ev_iload dX0_reckonPerson_91 rfl ?_
          refine ev_iald (v := A 72 q) dX0_reckonPerson_93 (ly_k (hX1.sc (by omega)).ly 35 rfl) (am_ixn (by omega) (by decide)) ((hX1.sc (by omega)).r35 q) ?_
          refine ev_aload_n dX0_reckonPerson_94 rfl rfl ?_
          refine ev_aload dX0_reckonPerson_95 rfl ?_
          refine ev_iload dX0_reckonPerson_97 rfl ?_
          refine ev_iald (v := A 71 q) dX0_reckonPerson_99 (ly_k (hX1.sc (by omega)).ly 34 rfl) (am_ixn (by omega) (by decide)) ((hX1.sc (by omega)).r34 q) ?_
          refine ev_callV (as := [.int (A 71 q)]) (st := [.int (A 72 q), .int (s_kn A P q), .ref 58]) dX0_reckonPerson_100 mfX1_loudAt lk_X0_56 ((hX1.sc (by omega)).gk hP hg1) (by decide) rfl (c_X1_loudAt G (D + 1) A (am_sI σ1 56 q (nI (mk_m (fun p => s_cn A p q) (P + 1)))) hA (hX1.sc (by omega)) P g hP hg1 (A 71 q)) rfl rfl (Nat.le_of_ble_eq_true rfl) (am_hR (by omega) (by decide)) ⟨Nat.le_refl _, Nat.le_refl _⟩ ?_
          rintro _ _ ⟨rfl, rfl⟩
          refine ev_callSN (as := [.ref 58, .int (s_kn A P q), .int (A 72 q), .int (s_ld A P (A 71 q))]) (st := []) dX0_reckonPerson_103 mfX6_name lk_X0_40 (c_X6_name G (D + 2) A (am_sI σ1 56 q (nI (mk_m (fun p => s_cn A p q) (P + 1)))) (hX1.sc (by omega)) 58 (ly_k (hX1.sc (by omega)).ly 58 rfl) (by decide) (s_kn A P q) (A 72 q) (s_ld A P (A 71 q))) rfl rfl (Nat.le_of_ble_eq_true rfl) (am_hR (by omega) (by decide)) ⟨Nat.le_refl _, Nat.le_refl _⟩ ?_
          rintro _ _ ⟨rfl, rfl⟩
          refine ev_aload_n dX0_reckonPerson_106 rfl rfl ?_
          refine ev_getR (b := 58) dX0_reckonPerson_107 fl_X0_23 (ly_k (iv_X.sc (by omega) (iv_X.sc (by omega) (iv_X.sc (by omega) (hX1.sc (by omega))))).ly 54 rfl) (ly_r (iv_X.sc (by omega) (iv_X.sc (by omega) (iv_X.sc (by omega) (hX1.sc (by omega))))).ly 28 rfl) ?_
          refine ev_aload dX0_reckonPerson_110 rfl ?_
          refine ev_iload dX0_reckonPerson_112 rfl ?_
          refine ev_iald (v := A 71 q) dX0_reckonPerson_114 (ly_k (iv_X.sc (by omega) (iv_X.sc (by omega) (iv_X.sc (by omega) (hX1.sc (by omega))))).ly 34 rfl) (am_ixn (by omega) (by decide)) ((iv_X.sc (by omega) (iv_X.sc (by omega) (iv_X.sc (by omega) (hX1.sc (by omega))))).r34 q) ?_
          refine ev_iload dX0_reckonPerson_115 rfl ?_
          refine ev_iload_n dX0_reckonPerson_117 rfl rfl ?_
          refine ev_callSN (as := [.ref 58, .int (A 71 q), .int (nI q), .int (nI P)]) (st := []) dX0_reckonPerson_118 mfX6_nameMore lk_X0_44 (c_X6_nameMore G (D + 2) A (am_sI (am_sI (am_sI (am_sI σ1 56 q (nI (mk_m (fun p => s_cn A p q) (P + 1)))) 58 0 (s_kn A P q)) 58 1 (A 72 q)) 58 2 (s_ld A P (A 71 q))) (iv_X.sc (by omega) (iv_X.sc (by omega) (iv_X.sc (by omega) (hX1.sc (by omega))))) 58 (ly_k (iv_X.sc (by omega) (iv_X.sc (by omega) (iv_X.sc (by omega) (hX1.sc (by omega))))).ly 58 rfl) (by decide) (A 71 q) (nI q) (nI P)) rfl rfl (Nat.le_of_ble_eq_true rfl) (am_hR (by omega) (by decide)) ⟨Nat.le_refl _, Nat.le_refl _⟩ ?_
          rintro _ _ ⟨rfl, rfl⟩
          refine ev_aload_n dX0_reckonPerson_121 rfl rfl ?_
          refine ev_getR (b := 55) dX0_reckonPerson_122 fl_X0_9 (ly_k (iv_X.sc (by omega) (iv_X.sc (by omega) (iv_X.sc (by omega) (iv_X.sc (by omega) (iv_X.sc (by omega) (iv_X.sc (by omega) (hX1.sc (by omega)))))))).ly 54 rfl) (ly_r (iv_X.sc (by omega) (iv_X.sc (by omega) (iv_X.sc (by omega) (iv_X.sc (by omega) (iv_X.sc (by omega) (iv_X.sc (by omega) (hX1.sc (by omega)))))))).ly 25 rfl) ?_
          refine ev_iload_n dX0_reckonPerson_125 rfl rfl ?_
          refine ev_bipush (v := 8) dX0_reckonPerson_126 (by decide) ?_
          refine ev_imul (v := nI (8 * P)) dX0_reckonPerson_128 x_m8 ?_
          refine ev_iload dX0_reckonPerson_129 rfl ?_
          refine ev_iadd (v := nI (8 * P + q)) dX0_reckonPerson_131 (nI_add (8 * P) q) ?_
          refine ev_aload_n dX0_reckonPerson_132 rfl rfl ?_
          refine ev_iconst (v := 0) dX0_reckonPerson_133 (by decide) ?_
          refine ev_aload_n dX0_reckonPerson_134 rfl rfl ?_
          refine ev_getR (b := 58) dX0_reckonPerson_135 fl_X0_23 (ly_k (iv_X.sc (by omega) (iv_X.sc (by omega) (iv_X.sc (by omega) (iv_X.sc (by omega) (iv_X.sc (by omega) (iv_X.sc (by omega) (hX1.sc (by omega)))))))).ly 54 rfl) (ly_r (iv_X.sc (by omega) (iv_X.sc (by omega) (iv_X.sc (by omega) (iv_X.sc (by omega) (iv_X.sc (by omega) (iv_X.sc (by omega) (hX1.sc (by omega)))))))).ly 28 rfl) ?_
          have hn4 : s_na (am_sI (am_sI (am_sI (am_sI (am_sI (am_sI (am_sI σ1 56 q (nI (mk_m (fun p => s_cn A p q) (P + 1)))) 58 0 (s_kn A P q)) 58 1 (A 72 q)) 58 2 (s_ld A P (A 71 q))) 58 3 (A 71 q)) 58 4 (nI q)) 58 5 (nI P)) 58 (s_nm (s_kn A P q) (A 72 q) (s_ld A P (A 71 q)) (A 71 q) (nI q) (nI P)) := by
            intro j hj
            rcases (show j = 0 ∨ j = 1 ∨ j = 2 ∨ j = 3 ∨ j = 4 ∨ j = 5 by omega) with rfl | rfl | rfl | rfl | rfl | rfl <;> rfl
          have hxx4 : (am_sI (am_sI (am_sI (am_sI (am_sI (am_sI (am_sI σ1 56 q (nI (mk_m (fun p => s_cn A p q) (P + 1)))) 58 0 (s_kn A P q)) 58 1 (A 72 q)) 58 2 (s_ld A P (A 71 q))) 58 3 (A 71 q)) 58 4 (nI q)) 58 5 (nI P)).2.2 37 (s_rl A) = some x := hx1
          refine ev_callV (as := [.int 0, .ref 58]) (st := [.int (nI (8 * P + q)), .ref 55]) dX0_reckonPerson_138 mfX5_says lk_X0_47 ((iv_X.sc (by omega) (iv_X.sc (by omega) (iv_X.sc (by omega) (iv_X.sc (by omega) (iv_X.sc (by omega) (iv_X.sc (by omega) (hX1.sc (by omega)))))))).tk brl hx1) (by decide) rfl (show am_Mt G _ mX5_says [.ref x, .int 0, .ref 58] (am_sI (am_sI (am_sI (am_sI (am_sI (am_sI (am_sI σ1 56 q (nI (mk_m (fun p => s_cn A p q) (P + 1)))) 58 0 (s_kn A P q)) 58 1 (A 72 q)) 58 2 (s_ld A P (A 71 q))) 58 3 (A 71 q)) 58 4 (nI q)) 58 5 (nI P)) 0 0 (am_qT1 A (.int (s_wt A P q)) (am_sI (am_sI (am_sI (am_sI (am_sI (am_sI (am_sI σ1 56 q (nI (mk_m (fun p => s_cn A p q) (P + 1)))) 58 0 (s_kn A P q)) 58 1 (A 72 q)) 58 2 (s_ld A P (A 71 q))) 58 3 (A 71 q)) 58 4 (nI q)) 58 5 (nI P))) from c_X5_says0 G D A (am_sI (am_sI (am_sI (am_sI (am_sI (am_sI (am_sI σ1 56 q (nI (mk_m (fun p => s_cn A p q) (P + 1)))) 58 0 (s_kn A P q)) 58 1 (A 72 q)) 58 2 (s_ld A P (A 71 q))) 58 3 (A 71 q)) 58 4 (nI q)) 58 5 (nI P)) hA (iv_X.sc (by omega) (iv_X.sc (by omega) (iv_X.sc (by omega) (iv_X.sc (by omega) (iv_X.sc (by omega) (iv_X.sc (by omega) (hX1.sc (by omega)))))))) (s_rl A) x brl hxx4 58 (ly_k (iv_X.sc (by omega) (iv_X.sc (by omega) (iv_X.sc (by omega) (iv_X.sc (by omega) (iv_X.sc (by omega) (iv_X.sc (by omega) (hX1.sc (by omega)))))))).ly 58 rfl) (by decide) (s_nm (s_kn A P q) (A 72 q) (s_ld A P (A 71 q)) (A 71 q) (nI q) (nI P)) hn4) rfl rfl (Nat.le_of_ble_eq_true rfl) (am_hR (by omega) (by decide)) ⟨Nat.le_refl _, Nat.le_refl _⟩ ?_
          rintro _ σ4 ⟨rfl, hX4, hF4⟩
          refine ev_iast dX0_reckonPerson_141 (ly_k hX4.ly 55 rfl) (am_ixn (by omega) (by decide)) ?_
          refine ev_iinc (lv' := [(0, .ref 54), (1, .ref x), (2, .int (nI P)), (3, .ref g), (4, .ref 34), (5, .ref 35), (6, .int (nI (q + 1))), (7, .int (s_kn A P q))]) (v := nI (q + 1)) dX0_reckonPerson_142 rfl (nI_1 _) (by decide) rfl ?_
          refine ev_goto (tgt := 22) dX0_reckonPerson_145 (by decide) ?_
          refine ev_keep (lv' := [(0, .ref 54), (1, .ref x), (2, .int (nI P)), (3, .ref g), (4, .ref 34), (5, .ref 35), (6, .int (nI (q + 1)))]) [0, 1, 2, 3, 4, 5, 6] rfl ?_
          exact ih (q + 1) (am_sI σ4 55 (8 * P + q) (s_wt A P q)) (by omega) (cq_X.s hz b8 (by omega) (hF4.2.2 54 (by decide) (by decide)) (hF4.2.2 57 (by decide) (by decide)) ((congrFun (hF4.2.2 56 (by decide) (by decide)) q).trans am_us) (fun y hy => (congrFun (hF4.2.2 56 (by decide) (by decide)) y).trans (am_uk hy)) am_us (fun y hy => (am_uk hy).trans (congrFun (hF4.2.2 55 (by decide) (by decide)) y))) (hX4.sc (by omega)) (fr_C.wr (by omega) (fr_C.tr (fr_C.wr (by omega) (fr_C.wr (by omega) (fr_C.wr (by omega) (fr_C.wr (by omega) (fr_C.wr (by omega) (fr_C.wr (by omega) (fr_C.wr (by omega) hF))))))) hF4.C)) (by omega)
  refine ev_aload_n dX0_reckonPerson_0 rfl rfl ?_
  refine ev_ifnullR dX0_reckonPerson_1 ?_
  refine ev_aload_n dX0_reckonPerson_4 rfl rfl ?_
  refine ev_ifnullR dX0_reckonPerson_5 ?_
  refine ev_iload_n dX0_reckonPerson_8 rfl rfl ?_
  refine ev_if_lt (tgt := 18) dX0_reckonPerson_9 (by decide) (fun c => absurd c (nI_pos (by omega))) (fun _ => ?_)
  refine ev_iload_n dX0_reckonPerson_12 rfl rfl ?_
  refine ev_bipush (v := 7) dX0_reckonPerson_13 (by decide) ?_
  refine ev_icmp_lt (tgt := 19) dX0_reckonPerson_15 (by decide) (fun _ => ?_) (fun c => absurd (nI_lt (a := P) (b := 7) (by omega) (by decide)) c)
  refine ev_iconst (v := 0) dX0_reckonPerson_19 (by decide) ?_
  refine ev_istore (lv' := [(0, .ref 54), (1, .ref x), (2, .int (nI P)), (3, .ref g), (4, .ref 34), (5, .ref 35), (6, .int 0)]) dX0_reckonPerson_20 (by decide) rfl ?_
  exact lp _ 0 σ (Nat.zero_le _) (cq_X.b hz) hX fr_C.rf (Nat.lt_succ_self _)

set_option maxHeartbeats 400000 in
set_option maxRecDepth 100000 in
theorem c_X0_reckonNobody (G : am_G) (D : Nat) (A : am_S) (σ : am_M) (hA : wf_A A) (hX : iv_X A σ) (x : Nat) (hx : σ.2.2 37 (s_rl A) = some x) (P : Nat) : am_Mt G (D + 3) mX0_reckonPerson [.ref 54, .ref x, .int (nI P), .null, .ref 34, .ref 35] σ 0 0 (am_qv σ) := by
  have b7 := wf_np7 hA
  have b8 := wf_nq8 hA
  have b6 := wf_nt6 hA
  have b61 := wf_nt1 hA
  have b160 := wf_tp160 hA
  have brl := wf_rlt hA
  refine am_of moX0_reckonPerson (Nat.le_of_ble_eq_true rfl) ?_
  show am_Ev G mX0_reckonPerson (am_R (D + 3) 0 0) 0 0 (am_qv σ) 0 [(0, .ref 54), (1, .ref x), (2, .int (nI P)), (3, .null), (4, .ref 34), (5, .ref 35)] [] σ 0 0
  refine ev_aload_n dX0_reckonPerson_0 rfl rfl ?_
  refine ev_ifnullR dX0_reckonPerson_1 ?_
  refine ev_aload_nN dX0_reckonPerson_4 rfl rfl ?_
  refine ev_ifnullN (tgt := 18) dX0_reckonPerson_5 (by decide) ?_
  refine ev_retv dX0_reckonPerson_18 rfl (Nat.zero_le _) (Nat.zero_le _) ?_
  exact ⟨rfl, rfl⟩

