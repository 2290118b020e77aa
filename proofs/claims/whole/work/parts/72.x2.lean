/-! the class: what a text says -/
def am_qT1 (A : am_S) (v : Value) (σ0 : am_M) : Option Value → am_M → Prop := fun r σ' => r = some v ∧ iv_X A σ' ∧ fr_S σ0 σ'
theorem cx_N {c : Int32} (h : 100000 ≤ c) : cx_st c = c - 100000 := if_pos h
theorem cx_Nge {c : Int32} (h : 100000 ≤ c ∧ c ≤ 109999) : 0 ≤ c - 100000 := by
  obtain ⟨v, hv, rfl⟩ := (am_rgl (x := c) (c := 109999) (n := 110000) (by decide)).mp ⟨by simp only [Int32.le_iff_toInt_le, Int32.reduceToInt] at *; omega, h.2⟩
  have h1 : 100000 ≤ v := (nI_leI (a := 100000) (b := v) (by decide) (by omega)).mp h.1
  have e : nI v - 100000 = nI (v - 100000) := pk_sub (a := v) (b := 100000) h1
  rw [e]
  exact (nI_leI (a := 0) (b := v - 100000) (by decide) (by omega)).mpr (Nat.zero_le _)
theorem cx_Ng6 {c : Int32} (h : 0 ≤ c) : -6 ≤ c := by simp only [Int32.le_iff_toInt_le, Int32.reduceToInt] at *; omega
theorem cx_J {j : Nat} (h : j < 6) : cx_st (nI j) = -1 - nI j ∧ ¬ -1 - nI j < -6 ∧ -1 - nI j < 0 ∧ -1 - (-1 - nI j) = nI j := by
  rcases (show j = 0 ∨ j = 1 ∨ j = 2 ∨ j = 3 ∨ j = 4 ∨ j = 5 by omega) with rfl | rfl | rfl | rfl | rfl | rfl <;> decide
theorem wf_c7 {c : Int32} (h : wf_c c = true) (h1 : 11 ≤ c) (h2 : c < 100000) (h3 : c ≠ 13) (h4 : c ≠ 19) : c = 11 ∨ c = 12 ∨ c = 14 ∨ c = 15 ∨ c = 16 ∨ c = 17 ∨ c = 18 := by
  unfold wf_c at h
  simp only [Bool.or_eq_true, Bool.and_eq_true, decide_eq_true_eq] at h
  rcases h with ((((((((((h | h) | h) | h) | h) | h) | h) | h) | h) | h) | h)
  · have := h.2
    exfalso
    simp only [Int32.lt_iff_toInt_lt, Int32.le_iff_toInt_le, Int32.reduceToInt] at *; omega
  · have := h.1
    exfalso
    simp only [Int32.lt_iff_toInt_lt, Int32.le_iff_toInt_le, Int32.reduceToInt] at *; omega
  · exact Or.inl h
  · exact Or.inr (Or.inl h)
  · exact absurd h h3
  · exact Or.inr (Or.inr (Or.inl h))
  · exact Or.inr (Or.inr (Or.inr (Or.inl h)))
  · exact Or.inr (Or.inr (Or.inr (Or.inr (Or.inl h))))
  · exact Or.inr (Or.inr (Or.inr (Or.inr (Or.inr (Or.inl h)))))
  · exact Or.inr (Or.inr (Or.inr (Or.inr (Or.inr (Or.inr h)))))
  · exact absurd h h4
theorem cx_B {c : Int32} (h : c = 11 ∨ c = 12 ∨ c = 14 ∨ c = 15 ∨ c = 16 ∨ c = 17 ∨ c = 18) : cx_st c = 4 - c ∧ 4 - c < -6 ∧ ¬ 4 - c = -9 ∧ ¬ 4 - c = -15 := by
  rcases h with rfl | rfl | rfl | rfl | rfl | rfl | rfl <;> decide
theorem cx_jn {c a b : Int32} (h : c = 11 ∨ c = 12 ∨ c = 14 ∨ c = 15 ∨ c = 16 ∨ c = 17 ∨ c = 18) : s_jn (4 - c) a b = s_tw c a b := by
  rcases h with rfl | rfl | rfl | rfl | rfl | rfl | rfl <;> rfl
/-- a text's places -/
theorem wt_s {A : am_S} {T P : Nat} (hA : wf_A A) (hT : T < s_nt A) (hP : P < 3) : A 76 (4 * T + P) = nI (s_st A T P) ∧ s_st A T P ≤ s_st A T (P + 1) ∧ s_st A T (P + 1) ≤ s_st A T 3 ∧ s_st A T 3 ≤ 160 ∧ wf_d (s_cs A T P) 0 = some 1 := by
  obtain ⟨h0, h⟩ := wf_tt hA T hT
  obtain ⟨a1, a2, a3, a4⟩ := h 0 (by decide)
  obtain ⟨b1, b2, b3, b4⟩ := h 1 (by decide)
  obtain ⟨c1, c2, c3, c4⟩ := h 2 (by decide)
  rcases (show P = 0 ∨ P = 1 ∨ P = 2 by omega) with rfl | rfl | rfl
  · exact ⟨by rw [Nat.add_zero]; unfold s_st; rw [Nat.add_zero, h0]; rfl, a2, Nat.le_trans b2 c2, c3, a4⟩
  · exact ⟨a1, b2, c2, c3, b4⟩
  · exact ⟨b1, c2, Nat.le_refl _, c3, c4⟩
set_option maxHeartbeats 400000 in
set_option maxRecDepth 100000 in
theorem c_X5_valueOf (G : am_G) (D : Nat) (A : am_S) (σ : am_M) (hA : wf_A A) (hX : iv_X A σ) (T x : Nat) (hT : T < s_nt A) (hx : σ.2.2 37 T = some x) (P : Nat) (hP : P < 3) (N : Nat) (hN : σ.1[N]? = some (10, 6)) (hN9 : 54 ≤ N ∧ N < 62) (nm : Nat → Int32) (hn : s_na σ N nm) : am_Mt G (D + 1) mX5_valueOf [.ref x, .int (nI (s_st A T P)), .int (nI (s_st A T (P + 1))), .ref N] σ 0 0 (am_qT1 A (.int ((s_run nm (s_cs A T P) []).headD 0)) σ) := by
  have b7 := wf_np7 hA
  have b8 := wf_nq8 hA
  have b6 := wf_nt6 hA
  have b61 := wf_nt1 hA
  have b160 := wf_tp160 hA
  have brl := wf_rlt hA
  refine am_of moX5_valueOf (Nat.le_of_ble_eq_true rfl) ?_
  show am_Ev G mX5_valueOf (am_R (D + 1) 0 0) 0 0 (am_qT1 A (.int ((s_run nm (s_cs A T P) []).headD 0)) σ) 0 [(0, .ref x), (1, .int (nI (s_st A T P))), (2, .int (nI (s_st A T (P + 1)))), (3, .ref N)] [] σ 0 0
  have h9 := hX.t9 hT hx
  obtain ⟨hs0, hse, hs3, hs16, hwd⟩ := wt_s hA hT hP
  have lp : ∀ (f : Nat) (k : Nat) (st : List Int32) (σ1 : am_M), (k ≤ s_st A T (P + 1)) → (s_run nm (s_sl A T k (s_st A T (P + 1))) st = s_run nm (s_cs A T P) []) → (wf_d (s_sl A T k (s_st A T (P + 1))) st.length = some 1) → (s_ps σ1 (x + 2) st) → (s_na σ1 N nm) → (st.length ≤ 32) → (iv_X A σ1) → (fr_S σ σ1) → s_st A T (P + 1) - k < f → am_Ev G mX5_valueOf (am_R (D + 1) 0 0) 0 0 (am_qT1 A (.int ((s_run nm (s_cs A T P) []).headD 0)) σ) 19 [(0, .ref x), (1, .int (nI (s_st A T P))), (2, .int (nI (s_st A T (P + 1)))), (3, .ref N), (4, .int (nI (st.length))), (5, .int (nI k))] [] σ1 0 0 := by
    intro f
    induction f with
    | zero => intro k st σ1 hk hr hw hp hn hl hX1 hF hf; exact absurd hf (Nat.not_lt_zero _)
    | succ f ih =>
      intro k st σ1 hk hr hw hp hn hl hX1 hF hf
      have hx1 : σ1.2.2 37 T = some x := (congrFun (congrFun hF.2.1 37) T).trans hx
      have hN1 : σ1.1[N]? = some (10, 6) := by rw [hF.1]; exact hN
      refine ev_iload dX5_valueOf_19 rfl ?_
      refine ev_iload_n dX5_valueOf_21 rfl rfl ?_
      refine ev_icmp_ge (tgt := 207) dX5_valueOf_22 (by decide) (fun c1 => ?_) (fun c1 => ?_)
      · skip
        have c1n : (s_st A T (P + 1)) ≤ k := (nI_leI (a := (s_st A T (P + 1))) (b := k) (by omega) (by omega)).mp c1
        rw [s_slN (by omega)] at hr hw
        obtain ⟨v0, hst⟩ : ∃ v0, st = [v0] := by
          have h1 : st.length = 1 := Option.some.inj hw
          exact List.length_eq_one_iff.mp h1
        subst hst
        refine ev_aload_n dX5_valueOf_207 rfl rfl ?_
        refine ev_getR (b := (x + 2)) dX5_valueOf_208 fl_X5_11 (hX1.tk hT hx1) (hX1.tr3 hT hx1) ?_
        refine ev_iconst (v := 0) dX5_valueOf_211 (by decide) ?_
        refine ev_iald (v := v0) dX5_valueOf_212 (hX1.tp hT hx1) (am_ixn (j := 0) (by decide) (by decide)) (s_psT hp) ?_
        refine ev_reti dX5_valueOf_213 rfl (Nat.zero_le _) (Nat.zero_le _) ?_
        have hq : (s_run nm (s_cs A T P) []).headD 0 = v0 := by
          rw [← hr]
          rfl
        exact ⟨by rw [hq], hX1, hF⟩
      · skip
        have c1n : ¬ (s_st A T (P + 1)) ≤ k := fun zz => c1 ((nI_leI (a := (s_st A T (P + 1))) (b := k) (by omega) (by omega)).mpr zz)
        refine ev_iload dX5_valueOf_25 rfl ?_
        refine ev_aload_n dX5_valueOf_27 rfl rfl ?_
        refine ev_getR (b := (x + 1)) dX5_valueOf_28 fl_X5_15 (hX1.tk hT hx1) (hX1.tr0 hT hx1) ?_
        refine ev_alen (v := nI (s_st A T 3)) dX5_valueOf_31 (hX1.tl hT hx1) (by decide) rfl ?_
        refine ev_icmp_ge (tgt := 207) dX5_valueOf_32 (by decide) (fun c => absurd c (Int32.not_le.mpr (nI_lt (by omega) (by omega)))) (fun _ => ?_)
        refine ev_aload_n dX5_valueOf_35 rfl rfl ?_
        refine ev_getR (b := (x + 1)) dX5_valueOf_36 fl_X5_15 (hX1.tk hT hx1) (hX1.tr0 hT hx1) ?_
        refine ev_iload dX5_valueOf_39 rfl ?_
        refine ev_iald (v := cx_st (A 75 (200 * T + k))) dX5_valueOf_41 (hX1.tl hT hx1) (am_ixn (by omega) (by omega)) (hX1.tc hT hx1 (by omega)) ?_
        refine ev_istore (lv' := [(0, .ref x), (1, .int (nI (s_st A T P))), (2, .int (nI (s_st A T (P + 1)))), (3, .ref N), (4, .int (nI (st.length))), (5, .int (nI k)), (6, .int (cx_st (A 75 (200 * T + k))))]) dX5_valueOf_42 (by decide) rfl ?_
        have hc := s_slC (A := A) (t := T) (by omega : k < s_st A T (P + 1))
        rw [hc] at hr hw
        rw [s_runC] at hr
        generalize hcc : A 75 (200 * T + k) = c at hr hw ⊢
        rcases wf_cs (wf_d1 hw) with hk1 | ⟨j, hj, rfl⟩ | rfl | rfl | ⟨q1, q2, q3, q4⟩
        · skip
          have q1 : 100000 ≤ c := hk1.1
          obtain ⟨w1, w2⟩ := wf_dL hw (s_leafN q1)
          rw [s_oneN q1] at hr
          rw [cx_N q1]
          have g0 := cx_Nge hk1
          have g6 := cx_Ng6 g0
          refine ev_iload dX5_valueOf_44 rfl ?_
          refine ev_bipush (v := (-6)) dX5_valueOf_46 (by decide) ?_
          refine ev_icmp_lt (tgt := 87) dX5_valueOf_48 (by decide) (fun c => absurd c (Int32.not_lt.mpr g6)) (fun _ => ?_)
          refine ev_iload dX5_valueOf_51 rfl ?_
          refine ev_bipush (v := 32) dX5_valueOf_53 (by decide) ?_
          refine ev_icmp_ge (tgt := 87) dX5_valueOf_55 (by decide) (fun c => absurd c (Int32.not_le.mpr (nI_lt (b := 32) w1 (by decide)))) (fun _ => ?_)
          refine ev_aload_n dX5_valueOf_58 rfl rfl ?_
          refine ev_getR (b := (x + 2)) dX5_valueOf_59 fl_X5_11 (hX1.tk hT hx1) (hX1.tr3 hT hx1) ?_
          refine ev_iload dX5_valueOf_62 rfl ?_
          refine ev_iload dX5_valueOf_64 rfl ?_
          refine ev_if_lt (tgt := 74) dX5_valueOf_66 (by decide) (fun c => absurd c (Int32.not_lt.mpr g0)) (fun _ => ?_)
          refine ev_iload dX5_valueOf_69 rfl ?_
          refine ev_goto (tgt := 80) dX5_valueOf_71 (by decide) ?_
          refine ev_iast dX5_valueOf_80 (hX1.tp hT hx1) (am_ixn (by omega) (by decide)) ?_
          refine ev_iinc (lv' := [(0, .ref x), (1, .int (nI (s_st A T P))), (2, .int (nI (s_st A T (P + 1)))), (3, .ref N), (4, .int (nI ((st.length) + 1))), (5, .int (nI k)), (6, .int (c - 100000))]) (v := nI ((st.length) + 1)) dX5_valueOf_81 rfl (nI_1 _) (by decide) rfl ?_
          refine ev_goto (tgt := 201) dX5_valueOf_84 (by decide) ?_
          refine ev_iinc (lv' := [(0, .ref x), (1, .int (nI (s_st A T P))), (2, .int (nI (s_st A T (P + 1)))), (3, .ref N), (4, .int (nI ((st.length) + 1))), (5, .int (nI (k + 1))), (6, .int (c - 100000))]) (v := nI (k + 1)) dX5_valueOf_201 rfl (nI_1 _) (by decide) rfl ?_
          refine ev_goto (tgt := 19) dX5_valueOf_204 (by decide) ?_
          refine ev_keep (lv' := [(0, .ref x), (1, .int (nI (s_st A T P))), (2, .int (nI (s_st A T (P + 1)))), (3, .ref N), (4, .int (nI ((st.length) + 1))), (5, .int (nI (k + 1)))]) [0, 1, 2, 3, 4, 5] rfl ?_
          exact ih (k + 1) ((c - 100000) :: st) (am_sI σ1 (x + 2) st.length (c - 100000)) (by omega) (by rw [hr]) w2 (s_psp hp) (s_nak (by omega) hn) (by simp only [List.length_cons] at *; omega) (iv_X.scp (hX1.t9 hT hx1) (hX1.tk hT hx1) (hX1.tl hT hx1) (hX1.tp hT hx1) hX1) (fr_S.wr h9 hF) (by omega)
        · skip
          obtain ⟨j1, j2, j3, j4⟩ := cx_J hj
          obtain ⟨w1, w2⟩ := wf_dL hw (s_leafJ hj)
          rw [s_oneJ hj] at hr
          rw [j1]
          refine ev_iload dX5_valueOf_44 rfl ?_
          refine ev_bipush (v := (-6)) dX5_valueOf_46 (by decide) ?_
          refine ev_icmp_lt (tgt := 87) dX5_valueOf_48 (by decide) (fun c => absurd c (j2)) (fun _ => ?_)
          refine ev_iload dX5_valueOf_51 rfl ?_
          refine ev_bipush (v := 32) dX5_valueOf_53 (by decide) ?_
          refine ev_icmp_ge (tgt := 87) dX5_valueOf_55 (by decide) (fun c => absurd c (Int32.not_le.mpr (nI_lt (b := 32) w1 (by decide)))) (fun _ => ?_)
          refine ev_aload_n dX5_valueOf_58 rfl rfl ?_
          refine ev_getR (b := (x + 2)) dX5_valueOf_59 fl_X5_11 (hX1.tk hT hx1) (hX1.tr3 hT hx1) ?_
          refine ev_iload dX5_valueOf_62 rfl ?_
          refine ev_iload dX5_valueOf_64 rfl ?_
          refine ev_if_lt (tgt := 74) dX5_valueOf_66 (by decide) (fun _ => ?_) (fun c => absurd (j3) c)
          refine ev_aload_n dX5_valueOf_74 rfl rfl ?_
          refine ev_iconst (v := (-1)) dX5_valueOf_75 (by decide) ?_
          refine ev_iload dX5_valueOf_76 rfl ?_
          refine ev_isub (v := nI j) dX5_valueOf_78 j4 ?_
          refine ev_iald (v := nm j) dX5_valueOf_79 hN1 (am_ixn (by omega) (by decide)) (hn j hj) ?_
          refine ev_iast dX5_valueOf_80 (hX1.tp hT hx1) (am_ixn (by omega) (by decide)) ?_
          refine ev_iinc (lv' := [(0, .ref x), (1, .int (nI (s_st A T P))), (2, .int (nI (s_st A T (P + 1)))), (3, .ref N), (4, .int (nI ((st.length) + 1))), (5, .int (nI k)), (6, .int (-1 - nI j))]) (v := nI ((st.length) + 1)) dX5_valueOf_81 rfl (nI_1 _) (by decide) rfl ?_
          refine ev_goto (tgt := 201) dX5_valueOf_84 (by decide) ?_
          refine ev_iinc (lv' := [(0, .ref x), (1, .int (nI (s_st A T P))), (2, .int (nI (s_st A T (P + 1)))), (3, .ref N), (4, .int (nI ((st.length) + 1))), (5, .int (nI (k + 1))), (6, .int (-1 - nI j))]) (v := nI (k + 1)) dX5_valueOf_201 rfl (nI_1 _) (by decide) rfl ?_
          refine ev_goto (tgt := 19) dX5_valueOf_204 (by decide) ?_
          refine ev_keep (lv' := [(0, .ref x), (1, .int (nI (s_st A T P))), (2, .int (nI (s_st A T (P + 1)))), (3, .ref N), (4, .int (nI ((st.length) + 1))), (5, .int (nI (k + 1)))]) [0, 1, 2, 3, 4, 5] rfl ?_
          exact ih (k + 1) ((nm j) :: st) (am_sI σ1 (x + 2) st.length (nm j)) (by omega) (by rw [hr]) w2 (s_psp hp) (s_nak (by omega) hn) (by simp only [List.length_cons] at *; omega) (iv_X.scp (hX1.t9 hT hx1) (hX1.tk hT hx1) (hX1.tl hT hx1) (hX1.tp hT hx1) hX1) (fr_S.wr h9 hF) (by omega)
        · skip
          obtain ⟨w1, w2⟩ := wf_dU hw (by decide)
          obtain ⟨a, t, rfl⟩ : ∃ a t, st = a :: t := by cases st with | nil => exact absurd w1 (by decide) | cons a t => exact ⟨a, t, rfl⟩
          rw [s_one13] at hr
          simp only [List.length_cons] at hl hw
          rw [show cx_st 13 = -9 by decide]
          change am_Ev G mX5_valueOf (am_R (D + 1) 0 0) 0 0 (am_qT1 A (.int ((s_run nm (s_cs A T P) []).headD 0)) σ) 44 [(0, .ref x), (1, .int (nI (s_st A T P))), (2, .int (nI (s_st A T (P + 1)))), (3, .ref N), (4, .int (nI (t.length + 1))), (5, .int (nI k)), (6, .int (-9))] [] σ1 0 0
          refine ev_iload dX5_valueOf_44 rfl ?_
          refine ev_bipush (v := (-6)) dX5_valueOf_46 (by decide) ?_
          refine ev_icmp_lt (tgt := 87) dX5_valueOf_48 (by decide) (fun _ => ?_) (fun c => absurd (by decide) c)
          refine ev_iload dX5_valueOf_87 rfl ?_
          refine ev_bipush (v := (-9)) dX5_valueOf_89 (by decide) ?_
          refine ev_icmp_ne (tgt := 128) dX5_valueOf_91 (by decide) (fun c => absurd (by decide) c) (fun _ => ?_)
          refine ev_iload dX5_valueOf_94 rfl ?_
          refine ev_if_le (tgt := 128) dX5_valueOf_96 (by decide) (fun c => absurd c (Int32.not_le.mpr (nI_lt (a := 0) (by omega) (by omega)))) (fun _ => ?_)
          refine ev_aload_n dX5_valueOf_99 rfl rfl ?_
          refine ev_getR (b := (x + 2)) dX5_valueOf_100 fl_X5_11 (hX1.tk hT hx1) (hX1.tr3 hT hx1) ?_
          refine ev_iload dX5_valueOf_103 rfl ?_
          refine ev_iconst (v := 1) dX5_valueOf_105 (by decide) ?_
          refine ev_isub (v := nI t.length) dX5_valueOf_106 (nI_pred _) ?_
          refine ev_aload_n dX5_valueOf_107 rfl rfl ?_
          refine ev_getR (b := (x + 2)) dX5_valueOf_108 fl_X5_11 (hX1.tk hT hx1) (hX1.tr3 hT hx1) ?_
          refine ev_iload dX5_valueOf_111 rfl ?_
          refine ev_iconst (v := 1) dX5_valueOf_113 (by decide) ?_
          refine ev_isub (v := nI t.length) dX5_valueOf_114 (nI_pred _) ?_
          refine ev_iald (v := a) dX5_valueOf_115 (hX1.tp hT hx1) (am_ixn (by omega) (by decide)) (s_psT hp) ?_
          refine ev_if_ne (tgt := 123) dX5_valueOf_116 (by decide) (fun c2 => ?_) (fun c2 => ?_)
          · skip
            refine ev_iconst (v := 0) dX5_valueOf_123 (by decide) ?_
            refine ev_iast dX5_valueOf_124 (hX1.tp hT hx1) (am_ixn (by omega) (by decide)) ?_
            refine ev_goto (tgt := 201) dX5_valueOf_125 (by decide) ?_
            refine ev_iinc (lv' := [(0, .ref x), (1, .int (nI (s_st A T P))), (2, .int (nI (s_st A T (P + 1)))), (3, .ref N), (4, .int (nI (t.length + 1))), (5, .int (nI (k + 1))), (6, .int (-9))]) (v := nI (k + 1)) dX5_valueOf_201 rfl (nI_1 _) (by decide) rfl ?_
            refine ev_goto (tgt := 19) dX5_valueOf_204 (by decide) ?_
            refine ev_keep (lv' := [(0, .ref x), (1, .int (nI (s_st A T P))), (2, .int (nI (s_st A T (P + 1)))), (3, .ref N), (4, .int (nI (t.length + 1))), (5, .int (nI (k + 1)))]) [0, 1, 2, 3, 4, 5] rfl ?_
            exact ih (k + 1) (0 :: t) (am_sI σ1 (x + 2) t.length 0) (by omega) (by rw [← hr]; simp [*]) w2 (s_psp (s_psd hp)) (s_nak (by omega) hn) (by simp only [List.length_cons] at *; omega) (iv_X.scp (hX1.t9 hT hx1) (hX1.tk hT hx1) (hX1.tl hT hx1) (hX1.tp hT hx1) hX1) (fr_S.wr h9 hF) (by omega)
          · skip
            refine ev_iconst (v := 1) dX5_valueOf_119 (by decide) ?_
            refine ev_goto (tgt := 124) dX5_valueOf_120 (by decide) ?_
            refine ev_iast dX5_valueOf_124 (hX1.tp hT hx1) (am_ixn (by omega) (by decide)) ?_
            refine ev_goto (tgt := 201) dX5_valueOf_125 (by decide) ?_
            refine ev_iinc (lv' := [(0, .ref x), (1, .int (nI (s_st A T P))), (2, .int (nI (s_st A T (P + 1)))), (3, .ref N), (4, .int (nI (t.length + 1))), (5, .int (nI (k + 1))), (6, .int (-9))]) (v := nI (k + 1)) dX5_valueOf_201 rfl (nI_1 _) (by decide) rfl ?_
            refine ev_goto (tgt := 19) dX5_valueOf_204 (by decide) ?_
            refine ev_keep (lv' := [(0, .ref x), (1, .int (nI (s_st A T P))), (2, .int (nI (s_st A T (P + 1)))), (3, .ref N), (4, .int (nI (t.length + 1))), (5, .int (nI (k + 1)))]) [0, 1, 2, 3, 4, 5] rfl ?_
            exact ih (k + 1) (1 :: t) (am_sI σ1 (x + 2) t.length 1) (by omega) (by rw [← hr]; simp [*]) w2 (s_psp (s_psd hp)) (s_nak (by omega) hn) (by simp only [List.length_cons] at *; omega) (iv_X.scp (hX1.t9 hT hx1) (hX1.tk hT hx1) (hX1.tl hT hx1) (hX1.tp hT hx1) hX1) (fr_S.wr h9 hF) (by omega)
        · skip
          obtain ⟨w1, w2⟩ := wf_dU hw (by decide)
          obtain ⟨a, t, rfl⟩ : ∃ a t, st = a :: t := by cases st with | nil => exact absurd w1 (by decide) | cons a t => exact ⟨a, t, rfl⟩
          rw [s_one19] at hr
          simp only [List.length_cons] at hl hw
          rw [show cx_st 19 = -15 by decide]
          change am_Ev G mX5_valueOf (am_R (D + 1) 0 0) 0 0 (am_qT1 A (.int ((s_run nm (s_cs A T P) []).headD 0)) σ) 44 [(0, .ref x), (1, .int (nI (s_st A T P))), (2, .int (nI (s_st A T (P + 1)))), (3, .ref N), (4, .int (nI (t.length + 1))), (5, .int (nI k)), (6, .int (-15))] [] σ1 0 0
          refine ev_iload dX5_valueOf_44 rfl ?_
          refine ev_bipush (v := (-6)) dX5_valueOf_46 (by decide) ?_
          refine ev_icmp_lt (tgt := 87) dX5_valueOf_48 (by decide) (fun _ => ?_) (fun c => absurd (by decide) c)
          refine ev_iload dX5_valueOf_87 rfl ?_
          refine ev_bipush (v := (-9)) dX5_valueOf_89 (by decide) ?_
          refine ev_icmp_ne (tgt := 128) dX5_valueOf_91 (by decide) (fun _ => ?_) (fun c => absurd c (by decide))
          refine ev_iload dX5_valueOf_128 rfl ?_
          refine ev_bipush (v := (-15)) dX5_valueOf_130 (by decide) ?_
          refine ev_icmp_ne (tgt := 162) dX5_valueOf_132 (by decide) (fun c => absurd (by decide) c) (fun _ => ?_)
          refine ev_iload dX5_valueOf_135 rfl ?_
          refine ev_if_le (tgt := 162) dX5_valueOf_137 (by decide) (fun c => absurd c (Int32.not_le.mpr (nI_lt (a := 0) (by omega) (by omega)))) (fun _ => ?_)
          refine ev_aload_n dX5_valueOf_140 rfl rfl ?_
          refine ev_getR (b := (x + 2)) dX5_valueOf_141 fl_X5_11 (hX1.tk hT hx1) (hX1.tr3 hT hx1) ?_
          refine ev_iload dX5_valueOf_144 rfl ?_
          refine ev_iconst (v := 1) dX5_valueOf_146 (by decide) ?_
          refine ev_isub (v := nI t.length) dX5_valueOf_147 (nI_pred _) ?_
          refine ev_aload_n dX5_valueOf_148 rfl rfl ?_
          refine ev_getR (b := (x + 2)) dX5_valueOf_149 fl_X5_11 (hX1.tk hT hx1) (hX1.tr3 hT hx1) ?_
          refine ev_iload dX5_valueOf_152 rfl ?_
          refine ev_iconst (v := 1) dX5_valueOf_154 (by decide) ?_
          refine ev_isub (v := nI t.length) dX5_valueOf_155 (nI_pred _) ?_
          refine ev_iald (v := a) dX5_valueOf_156 (hX1.tp hT hx1) (am_ixn (by omega) (by decide)) (s_psT hp) ?_
          refine ev_ineg (v := -a) dX5_valueOf_157 rfl ?_
          refine ev_iast dX5_valueOf_158 (hX1.tp hT hx1) (am_ixn (by omega) (by decide)) ?_
          refine ev_goto (tgt := 201) dX5_valueOf_159 (by decide) ?_
          refine ev_iinc (lv' := [(0, .ref x), (1, .int (nI (s_st A T P))), (2, .int (nI (s_st A T (P + 1)))), (3, .ref N), (4, .int (nI (t.length + 1))), (5, .int (nI (k + 1))), (6, .int (-15))]) (v := nI (k + 1)) dX5_valueOf_201 rfl (nI_1 _) (by decide) rfl ?_
          refine ev_goto (tgt := 19) dX5_valueOf_204 (by decide) ?_
          refine ev_keep (lv' := [(0, .ref x), (1, .int (nI (s_st A T P))), (2, .int (nI (s_st A T (P + 1)))), (3, .ref N), (4, .int (nI (t.length + 1))), (5, .int (nI (k + 1)))]) [0, 1, 2, 3, 4, 5] rfl ?_
          exact ih (k + 1) ((-a) :: t) (am_sI σ1 (x + 2) t.length (-a)) (by omega) (by rw [hr]) w2 (s_psp (s_psd hp)) (s_nak (by omega) hn) (by simp only [List.length_cons] at *; omega) (iv_X.scp (hX1.t9 hT hx1) (hX1.tk hT hx1) (hX1.tl hT hx1) (hX1.tp hT hx1) hX1) (fr_S.wr h9 hF) (by omega)
        · skip
          have q7 := wf_c7 (wf_d1 hw) q1 q2 q3 q4
          obtain ⟨j1, j2, j3, j4⟩ := cx_B q7
          obtain ⟨w1, w2⟩ := wf_dB hw (s_leafF q1 q2) (fun z => z.elim q3 q4)
          obtain ⟨b, a, t, rfl⟩ : ∃ b a t, st = b :: a :: t := by
            cases st with
            | nil => exact absurd w1 (by decide)
            | cons b t => cases t with
              | nil => exact absurd w1 (by simp)
              | cons a t => exact ⟨b, a, t, rfl⟩
          rw [s_oneB q1 q2 q3 q4, ← cx_jn q7] at hr
          simp only [List.length_cons] at hl hw w2
          rw [j1]
          change am_Ev G mX5_valueOf (am_R (D + 1) 0 0) 0 0 (am_qT1 A (.int ((s_run nm (s_cs A T P) []).headD 0)) σ) 44 [(0, .ref x), (1, .int (nI (s_st A T P))), (2, .int (nI (s_st A T (P + 1)))), (3, .ref N), (4, .int (nI (t.length + 1 + 1))), (5, .int (nI k)), (6, .int (4 - c))] [] σ1 0 0
          refine ev_iload dX5_valueOf_44 rfl ?_
          refine ev_bipush (v := (-6)) dX5_valueOf_46 (by decide) ?_
          refine ev_icmp_lt (tgt := 87) dX5_valueOf_48 (by decide) (fun _ => ?_) (fun c => absurd (j2) c)
          refine ev_iload dX5_valueOf_87 rfl ?_
          refine ev_bipush (v := (-9)) dX5_valueOf_89 (by decide) ?_
          refine ev_icmp_ne (tgt := 128) dX5_valueOf_91 (by decide) (fun _ => ?_) (fun c => absurd c (j3))
          refine ev_iload dX5_valueOf_128 rfl ?_
          refine ev_bipush (v := (-15)) dX5_valueOf_130 (by decide) ?_
          refine ev_icmp_ne (tgt := 162) dX5_valueOf_132 (by decide) (fun _ => ?_) (fun c => absurd c (j4))
          refine ev_iload dX5_valueOf_162 rfl ?_
          refine ev_iconst (v := 1) dX5_valueOf_164 (by decide) ?_
          refine ev_icmp_le (tgt := 201) dX5_valueOf_165 (by decide) (fun c => absurd c (Int32.not_le.mpr (nI_lt (a := 1) (by omega) (by omega)))) (fun _ => ?_)
          refine ev_iinc (lv' := [(0, .ref x), (1, .int (nI (s_st A T P))), (2, .int (nI (s_st A T (P + 1)))), (3, .ref N), (4, .int (nI (t.length + 1))), (5, .int (nI k)), (6, .int (4 - c))]) (v := nI (t.length + 1)) dX5_valueOf_168 rfl (pk_m1 _) (by decide) rfl ?_
          refine ev_aload_n dX5_valueOf_171 rfl rfl ?_
          refine ev_getR (b := (x + 2)) dX5_valueOf_172 fl_X5_11 (hX1.tk hT hx1) (hX1.tr3 hT hx1) ?_
          refine ev_iload dX5_valueOf_175 rfl ?_
          refine ev_iconst (v := 1) dX5_valueOf_177 (by decide) ?_
          refine ev_isub (v := nI t.length) dX5_valueOf_178 (nI_pred _) ?_
          refine ev_iload dX5_valueOf_179 rfl ?_
          refine ev_aload_n dX5_valueOf_181 rfl rfl ?_
          refine ev_getR (b := (x + 2)) dX5_valueOf_182 fl_X5_11 (hX1.tk hT hx1) (hX1.tr3 hT hx1) ?_
          refine ev_iload dX5_valueOf_185 rfl ?_
          refine ev_iconst (v := 1) dX5_valueOf_187 (by decide) ?_
          refine ev_isub (v := nI t.length) dX5_valueOf_188 (nI_pred _) ?_
          refine ev_iald (v := a) dX5_valueOf_189 (hX1.tp hT hx1) (am_ixn (by omega) (by decide)) (s_psT (s_psd hp)) ?_
          refine ev_aload_n dX5_valueOf_190 rfl rfl ?_
          refine ev_getR (b := (x + 2)) dX5_valueOf_191 fl_X5_11 (hX1.tk hT hx1) (hX1.tr3 hT hx1) ?_
          refine ev_iload dX5_valueOf_194 rfl ?_
          refine ev_iald (v := b) dX5_valueOf_196 (hX1.tp hT hx1) (am_ixn (by omega) (by decide)) (s_psT hp) ?_
          refine ev_callS (as := [.int (4 - c), .int a, .int b]) (st := [.int (nI t.length), .ref (x + 2)]) dX5_valueOf_197 mfX5_joined lk_X5_33 (c_X5_joined G D σ1 (4 - c) a b) rfl rfl (Nat.le_of_ble_eq_true rfl) (am_hR (by omega) (by decide)) ⟨Nat.le_refl _, Nat.le_refl _⟩ ?_
          rintro _ _ ⟨rfl, rfl⟩
          refine ev_iast dX5_valueOf_200 (hX1.tp hT hx1) (am_ixn (by omega) (by decide)) ?_
          refine ev_iinc (lv' := [(0, .ref x), (1, .int (nI (s_st A T P))), (2, .int (nI (s_st A T (P + 1)))), (3, .ref N), (4, .int (nI (t.length + 1))), (5, .int (nI (k + 1))), (6, .int (4 - c))]) (v := nI (k + 1)) dX5_valueOf_201 rfl (nI_1 _) (by decide) rfl ?_
          refine ev_goto (tgt := 19) dX5_valueOf_204 (by decide) ?_
          refine ev_keep (lv' := [(0, .ref x), (1, .int (nI (s_st A T P))), (2, .int (nI (s_st A T (P + 1)))), (3, .ref N), (4, .int (nI (t.length + 1))), (5, .int (nI (k + 1)))]) [0, 1, 2, 3, 4, 5] rfl ?_
          exact ih (k + 1) ((s_jn (4 - c) a b) :: t) (am_sI σ1 (x + 2) t.length (s_jn (4 - c) a b)) (by omega) (by rw [hr]) w2 (s_psp (s_psd (s_psd hp))) (s_nak (by omega) hn) (by simp only [List.length_cons] at *; omega) (iv_X.scp (hX1.t9 hT hx1) (hX1.tk hT hx1) (hX1.tl hT hx1) (hX1.tp hT hx1) hX1) (fr_S.wr h9 hF) (by omega)
  refine ev_iload_n dX5_valueOf_0 rfl rfl ?_
  refine ev_if_lt (tgt := 11) dX5_valueOf_1 (by decide) (fun c => absurd c (nI_pos (by omega))) (fun _ => ?_)
  refine ev_aload_n dX5_valueOf_4 rfl rfl ?_
  refine ev_alen (v := 6) dX5_valueOf_5 hN (by decide) rfl ?_
  refine ev_bipush (v := 6) dX5_valueOf_6 (by decide) ?_
  refine ev_icmp_ge (tgt := 13) dX5_valueOf_8 (by decide) (fun _ => ?_) (fun c => absurd (by decide) c)
  refine ev_iconst (v := 0) dX5_valueOf_13 (by decide) ?_
  refine ev_istore (lv' := [(0, .ref x), (1, .int (nI (s_st A T P))), (2, .int (nI (s_st A T (P + 1)))), (3, .ref N), (4, .int 0)]) dX5_valueOf_14 (by decide) rfl ?_
  refine ev_iload_n dX5_valueOf_16 rfl rfl ?_
  refine ev_istore (lv' := [(0, .ref x), (1, .int (nI (s_st A T P))), (2, .int (nI (s_st A T (P + 1)))), (3, .ref N), (4, .int 0), (5, .int (nI (s_st A T P)))]) dX5_valueOf_17 (by decide) rfl ?_
  exact lp _ (s_st A T P) ([]) σ hse rfl hwd s_ps0 hn (Nat.zero_le _) hX fr_S.rf (Nat.lt_succ_self _)

def s_ax (A : am_S) (T part : Nat) (nm : Nat → Int32) : Int32 := if part = 0 then am_bd ((s_run nm (s_cs A T 0) []).headD 0) (-999) 999 else am_bd ((s_run nm (s_cs A T part) []).headD 0) 0 99
theorem s_axL {A : am_S} {part : Nat} {nm : Nat → Int32} : s_ax A (s_rl A) part nm = s_as A part nm := rfl
set_option maxHeartbeats 400000 in
set_option maxRecDepth 100000 in
theorem c_X5_says0 (G : am_G) (D : Nat) (A : am_S) (σ : am_M) (hA : wf_A A) (hX : iv_X A σ) (T x : Nat) (hT : T < s_nt A) (hx : σ.2.2 37 T = some x) (N : Nat) (hN : σ.1[N]? = some (10, 6)) (hN9 : 54 ≤ N ∧ N < 62) (nm : Nat → Int32) (hn : s_na σ N nm) : am_Mt G (D + 2) mX5_says [.ref x, .int 0, .ref N] σ 0 0 (am_qT1 A (.int (s_ax A T 0 nm)) σ) := by
  have b7 := wf_np7 hA
  have b8 := wf_nq8 hA
  have b6 := wf_nt6 hA
  have b61 := wf_nt1 hA
  have b160 := wf_tp160 hA
  have brl := wf_rlt hA
  refine am_of moX5_says (Nat.le_of_ble_eq_true rfl) ?_
  show am_Ev G mX5_says (am_R (D + 2) 0 0) 0 0 (am_qT1 A (.int (s_ax A T 0 nm)) σ) 0 [(0, .ref x), (1, .int 0), (2, .ref N)] [] σ 0 0
  have h9 := hX.t9 hT hx
  obtain ⟨hs0, hse0, hs30, hs16, hwd0⟩ := wt_s hA hT (P := 0) (by decide)
  obtain ⟨hs1, hse1, hs31, -, hwd1⟩ := wt_s hA hT (P := 1) (by decide)
  obtain ⟨hs2, hse2, hs32, -, hwd2⟩ := wt_s hA hT (P := 2) (by decide)
  have hz : nI (s_st A T 0) = 0 := hs0.symm.trans (wf_tt hA T hT).1
  refine ev_iload_n dX5_says_0 rfl rfl ?_
  refine ev_lookup (tgt := 28) (off := 27) dX5_says_1 (by decide) (by decide) (by decide) ?_
  refine ev_aload_n dX5_says_28 rfl rfl ?_
  refine ev_iconst (v := 0) dX5_says_29 (by decide) ?_
  refine ev_aload_n dX5_says_30 rfl rfl ?_
  refine ev_getI (v := nI (s_st A T 1)) dX5_says_31 fl_X5_18 (hX.tk hT hx) ((hX.t1 hT hx).trans hs1) ?_
  refine ev_aload_n dX5_says_34 rfl rfl ?_
  refine ev_callV (as := [.int 0, .int (nI (s_st A T 1)), .ref N]) (st := []) dX5_says_35 mfX5_valueOf lk_X5_25 (hX.tk hT hx) (by decide) rfl (by have hh := c_X5_valueOf G D A σ hA hX T x hT hx 0 (by decide) N hN hN9 nm hn; rw [hz] at hh; exact hh) rfl rfl (Nat.le_of_ble_eq_true rfl) (am_hR (by omega) (by decide)) ⟨Nat.le_refl _, Nat.le_refl _⟩ ?_
  rintro _ σ1 ⟨rfl, hX1, hF1⟩
  refine ev_sipush (v := (-999)) dX5_says_38 (by decide) ?_
  refine ev_sipush (v := 999) dX5_says_41 (by decide) ?_
  refine ev_callSN (as := [.int ((s_run nm (s_cs A T 0) []).headD 0), .int (-999), .int 999]) (st := []) dX5_says_44 mfX6_bounded lk_X5_29 (c_X6_bounded G D σ1 ((s_run nm (s_cs A T 0) []).headD 0) (-999) 999 (by decide)) rfl rfl (Nat.le_of_ble_eq_true rfl) (am_hR (by omega) (by decide)) ⟨Nat.le_refl _, Nat.le_refl _⟩ ?_
  rintro _ _ ⟨rfl, rfl⟩
  refine ev_reti dX5_says_47 rfl (Nat.zero_le _) (Nat.zero_le _) ?_
  exact ⟨rfl, hX1, (fr_S.tr fr_S.rf hF1)⟩

set_option maxHeartbeats 400000 in
set_option maxRecDepth 100000 in
theorem c_X5_says1 (G : am_G) (D : Nat) (A : am_S) (σ : am_M) (hA : wf_A A) (hX : iv_X A σ) (T x : Nat) (hT : T < s_nt A) (hx : σ.2.2 37 T = some x) (N : Nat) (hN : σ.1[N]? = some (10, 6)) (hN9 : 54 ≤ N ∧ N < 62) (nm : Nat → Int32) (hn : s_na σ N nm) : am_Mt G (D + 2) mX5_says [.ref x, .int 1, .ref N] σ 0 0 (am_qT1 A (.int (s_ax A T 1 nm)) σ) := by
  have b7 := wf_np7 hA
  have b8 := wf_nq8 hA
  have b6 := wf_nt6 hA
  have b61 := wf_nt1 hA
  have b160 := wf_tp160 hA
  have brl := wf_rlt hA
  refine am_of moX5_says (Nat.le_of_ble_eq_true rfl) ?_
  show am_Ev G mX5_says (am_R (D + 2) 0 0) 0 0 (am_qT1 A (.int (s_ax A T 1 nm)) σ) 0 [(0, .ref x), (1, .int 1), (2, .ref N)] [] σ 0 0
  have h9 := hX.t9 hT hx
  obtain ⟨hs0, hse0, hs30, hs16, hwd0⟩ := wt_s hA hT (P := 0) (by decide)
  obtain ⟨hs1, hse1, hs31, -, hwd1⟩ := wt_s hA hT (P := 1) (by decide)
  obtain ⟨hs2, hse2, hs32, -, hwd2⟩ := wt_s hA hT (P := 2) (by decide)
  have hz : nI (s_st A T 0) = 0 := hs0.symm.trans (wf_tt hA T hT).1
  refine ev_iload_n dX5_says_0 rfl rfl ?_
  refine ev_lookup (tgt := 48) (off := 47) dX5_says_1 (by decide) (by decide) (by decide) ?_
  refine ev_aload_n dX5_says_48 rfl rfl ?_
  refine ev_aload_n dX5_says_49 rfl rfl ?_
  refine ev_getI (v := nI (s_st A T 1)) dX5_says_50 fl_X5_18 (hX.tk hT hx) ((hX.t1 hT hx).trans hs1) ?_
  refine ev_aload_n dX5_says_53 rfl rfl ?_
  refine ev_getI (v := nI (s_st A T 2)) dX5_says_54 fl_X5_22 (hX.tk hT hx) ((hX.t2 hT hx).trans hs2) ?_
  refine ev_aload_n dX5_says_57 rfl rfl ?_
  refine ev_callV (as := [.int (nI (s_st A T 1)), .int (nI (s_st A T 2)), .ref N]) (st := []) dX5_says_58 mfX5_valueOf lk_X5_25 (hX.tk hT hx) (by decide) rfl (c_X5_valueOf G D A σ hA hX T x hT hx 1 (by decide) N hN hN9 nm hn) rfl rfl (Nat.le_of_ble_eq_true rfl) (am_hR (by omega) (by decide)) ⟨Nat.le_refl _, Nat.le_refl _⟩ ?_
  rintro _ σ1 ⟨rfl, hX1, hF1⟩
  refine ev_iconst (v := 0) dX5_says_61 (by decide) ?_
  refine ev_bipush (v := 99) dX5_says_62 (by decide) ?_
  refine ev_callSN (as := [.int ((s_run nm (s_cs A T 1) []).headD 0), .int 0, .int 99]) (st := []) dX5_says_64 mfX6_bounded lk_X5_29 (c_X6_bounded G D σ1 ((s_run nm (s_cs A T 1) []).headD 0) 0 99 (by decide)) rfl rfl (Nat.le_of_ble_eq_true rfl) (am_hR (by omega) (by decide)) ⟨Nat.le_refl _, Nat.le_refl _⟩ ?_
  rintro _ _ ⟨rfl, rfl⟩
  refine ev_reti dX5_says_67 rfl (Nat.zero_le _) (Nat.zero_le _) ?_
  exact ⟨rfl, hX1, (fr_S.tr fr_S.rf hF1)⟩

set_option maxHeartbeats 400000 in
set_option maxRecDepth 100000 in
theorem c_X5_says2 (G : am_G) (D : Nat) (A : am_S) (σ : am_M) (hA : wf_A A) (hX : iv_X A σ) (T x : Nat) (hT : T < s_nt A) (hx : σ.2.2 37 T = some x) (N : Nat) (hN : σ.1[N]? = some (10, 6)) (hN9 : 54 ≤ N ∧ N < 62) (nm : Nat → Int32) (hn : s_na σ N nm) : am_Mt G (D + 2) mX5_says [.ref x, .int 2, .ref N] σ 0 0 (am_qT1 A (.int (s_ax A T 2 nm)) σ) := by
  have b7 := wf_np7 hA
  have b8 := wf_nq8 hA
  have b6 := wf_nt6 hA
  have b61 := wf_nt1 hA
  have b160 := wf_tp160 hA
  have brl := wf_rlt hA
  refine am_of moX5_says (Nat.le_of_ble_eq_true rfl) ?_
  show am_Ev G mX5_says (am_R (D + 2) 0 0) 0 0 (am_qT1 A (.int (s_ax A T 2 nm)) σ) 0 [(0, .ref x), (1, .int 2), (2, .ref N)] [] σ 0 0
  have h9 := hX.t9 hT hx
  obtain ⟨hs0, hse0, hs30, hs16, hwd0⟩ := wt_s hA hT (P := 0) (by decide)
  obtain ⟨hs1, hse1, hs31, -, hwd1⟩ := wt_s hA hT (P := 1) (by decide)
  obtain ⟨hs2, hse2, hs32, -, hwd2⟩ := wt_s hA hT (P := 2) (by decide)
  have hz : nI (s_st A T 0) = 0 := hs0.symm.trans (wf_tt hA T hT).1
  refine ev_iload_n dX5_says_0 rfl rfl ?_
  refine ev_lookup (tgt := 68) (off := 67) dX5_says_1 (by decide) (by decide) (by decide) ?_
  refine ev_aload_n dX5_says_68 rfl rfl ?_
  refine ev_aload_n dX5_says_69 rfl rfl ?_
  refine ev_getI (v := nI (s_st A T 2)) dX5_says_70 fl_X5_22 (hX.tk hT hx) ((hX.t2 hT hx).trans hs2) ?_
  refine ev_aload_n dX5_says_73 rfl rfl ?_
  refine ev_getR (b := (x + 1)) dX5_says_74 fl_X5_15 (hX.tk hT hx) (hX.tr0 hT hx) ?_
  refine ev_alen (v := nI (s_st A T 3)) dX5_says_77 (hX.tl hT hx) (by decide) rfl ?_
  refine ev_aload_n dX5_says_78 rfl rfl ?_
  refine ev_callV (as := [.int (nI (s_st A T 2)), .int (nI (s_st A T 3)), .ref N]) (st := []) dX5_says_79 mfX5_valueOf lk_X5_25 (hX.tk hT hx) (by decide) rfl (c_X5_valueOf G D A σ hA hX T x hT hx 2 (by decide) N hN hN9 nm hn) rfl rfl (Nat.le_of_ble_eq_true rfl) (am_hR (by omega) (by decide)) ⟨Nat.le_refl _, Nat.le_refl _⟩ ?_
  rintro _ σ1 ⟨rfl, hX1, hF1⟩
  refine ev_iconst (v := 0) dX5_says_82 (by decide) ?_
  refine ev_bipush (v := 99) dX5_says_83 (by decide) ?_
  refine ev_callSN (as := [.int ((s_run nm (s_cs A T 2) []).headD 0), .int 0, .int 99]) (st := []) dX5_says_85 mfX6_bounded lk_X5_29 (c_X6_bounded G D σ1 ((s_run nm (s_cs A T 2) []).headD 0) 0 99 (by decide)) rfl rfl (Nat.le_of_ble_eq_true rfl) (am_hR (by omega) (by decide)) ⟨Nat.le_refl _, Nat.le_refl _⟩ ?_
  rintro _ _ ⟨rfl, rfl⟩
  refine ev_reti dX5_says_88 rfl (Nat.zero_le _) (Nat.zero_le _) ?_
  exact ⟨rfl, hX1, (fr_S.tr fr_S.rf hF1)⟩

