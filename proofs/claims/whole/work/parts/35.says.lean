/-! the reference: what a text says -/
set_option maxHeartbeats 400000 in
set_option maxRecDepth 100000 in
theorem c_X7_says (G : am_G) (D : Nat) (A : am_S) (σ : am_M) (hA : wf_A A) (hI : iv_M A σ) (P : Nat) (hP : P < 3) (nm : Nat → Int32) (hn : s_na σ 87 nm) : am_Mt G (D + 1) mX7_says [.ref 65, .int (nI P)] σ 0 0 (am_qM A (.int (s_sy A P nm)) σ) := by
  have b7 := wf_np7 hA
  have b8 := wf_nq8 hA
  have b6 := wf_nt6 hA
  have b61 := wf_nt1 hA
  have b160 := wf_tp160 hA
  have brl := wf_rlt hA
  refine am_of moX7_says (Nat.le_of_ble_eq_true rfl) ?_
  show am_Ev G mX7_says (am_R (D + 1) 0 0) 0 0 (am_qM A (.int (s_sy A P nm)) σ) 0 [(0, .ref 65), (1, .int (nI P))] [] σ 0 0
  obtain ⟨ht0, ht⟩ := wf_tt hA _ brl
  obtain ⟨hs1, hse, hs16, hwd⟩ := ht P hP
  have hs0 : A 76 (4 * s_rl A + P) = nI (s_st A (s_rl A) P) := by
    rcases P with _ | P
    · unfold s_st; rw [Nat.add_zero, ht0]; rfl
    · exact (ht P (by omega)).1
  have lp : ∀ (f : Nat) (k : Nat) (st : List Int32) (σ1 : am_M), (k ≤ s_st A (s_rl A) (P + 1)) → (s_run nm (s_sl A (s_rl A) k (s_st A (s_rl A) (P + 1))) st = s_run nm (s_cs A (s_rl A) P) []) → (wf_d (s_sl A (s_rl A) k (s_st A (s_rl A) (P + 1))) st.length = some 1) → (s_ps σ1 86 st) → (s_na σ1 87 nm) → (st.length ≤ 32) → (iv_M A σ1) → (fr_M σ σ1) → s_st A (s_rl A) (P + 1) - k < f → am_Ev G mX7_says (am_R (D + 1) 0 0) 0 0 (am_qM A (.int (s_sy A P nm)) σ) 16 [(0, .ref 65), (1, .int (nI P)), (2, .int (nI (st.length))), (3, .int (nI k))] [] σ1 0 0 := by
    intro f
    induction f with
    | zero => intro k st σ1 hk hr hw hp hn hl hI hF hf; exact absurd hf (Nat.not_lt_zero _)
    | succ f ih =>
      intro k st σ1 hk hr hw hp hn hl hI hF hf
      refine ev_iload_n dX7_says_16 rfl rfl ?_
      refine ev_aload_n dX7_says_17 rfl rfl ?_
      refine ev_getR (b := 76) dX7_says_18 fl_X7_40 (ly_k hI.ly 65 rfl) (ly_r hI.ly 39 rfl) ?_
      refine ev_iconst (v := 4) dX7_says_21 (by decide) ?_
      refine ev_aload_n dX7_says_22 rfl rfl ?_
      refine ev_getI (v := nI (s_rl A)) dX7_says_23 fl_X7_100 (ly_k hI.ly 65 rfl) ((hI.rd 65 15 rfl).trans (wf_rl hA)) ?_
      refine ev_imul (v := nI (4 * (s_rl A))) dX7_says_26 (pk_mul 4 (s_rl A)) ?_
      refine ev_iload_n dX7_says_27 rfl rfl ?_
      refine ev_iadd (v := nI (4 * (s_rl A) + P)) dX7_says_28 (nI_add (4 * (s_rl A)) P) ?_
      refine ev_iconst (v := 1) dX7_says_29 (by decide) ?_
      refine ev_iadd (v := nI (4 * (s_rl A) + P + 1)) dX7_says_30 (nI_1 _) ?_
      refine ev_iald (v := nI (s_st A (s_rl A) (P + 1))) dX7_says_31 (ly_k hI.ly 76 rfl) (am_ixn (by omega) (by decide)) ((hI.rd 76 (4 * (s_rl A) + P + 1) rfl).trans hs1) ?_
      refine ev_icmp_ge (tgt := 197) dX7_says_32 (by decide) (fun c1 => ?_) (fun c1 => ?_)
      · skip
        have c1n : (s_st A (s_rl A) (P + 1)) ≤ k := (nI_leI (a := (s_st A (s_rl A) (P + 1))) (b := k) (by omega) (by omega)).mp c1
        rw [s_slN (by omega)] at hr hw
        obtain ⟨v0, hst⟩ : ∃ v0, st = [v0] := by
          have h1 : st.length = 1 := Option.some.inj hw
          exact List.length_eq_one_iff.mp h1
        subst hst
        refine ev_aload_n dX7_says_197 rfl rfl ?_
        refine ev_getR (b := 86) dX7_says_198 fl_X7_70 (ly_k hI.ly 65 rfl) (ly_r hI.ly 49 rfl) ?_
        refine ev_iconst (v := 0) dX7_says_201 (by decide) ?_
        refine ev_iald (v := v0) dX7_says_202 (ly_k hI.ly 86 rfl) (am_ixn (j := 0) (by decide) (by decide)) (s_psT hp) ?_
        refine ev_reti dX7_says_203 rfl (Nat.zero_le _) (Nat.zero_le _) ?_
        have hq : s_sy A P nm = v0 := by
          unfold s_sy
          rw [← hr]
          rfl
        exact ⟨by rw [hq], hI, hF⟩
      · skip
        have c1n : ¬ (s_st A (s_rl A) (P + 1)) ≤ k := fun zz => c1 ((nI_leI (a := (s_st A (s_rl A) (P + 1))) (b := k) (by omega) (by omega)).mpr zz)
        refine ev_aload_n dX7_says_35 rfl rfl ?_
        refine ev_getR (b := 75) dX7_says_36 fl_X7_37 (ly_k hI.ly 65 rfl) (ly_r hI.ly 38 rfl) ?_
        refine ev_sipush (v := 200) dX7_says_39 (by decide) ?_
        refine ev_aload_n dX7_says_42 rfl rfl ?_
        refine ev_getI (v := nI (s_rl A)) dX7_says_43 fl_X7_100 (ly_k hI.ly 65 rfl) ((hI.rd 65 15 rfl).trans (wf_rl hA)) ?_
        refine ev_imul (v := nI (200 * (s_rl A))) dX7_says_46 (pk_mul 200 (s_rl A)) ?_
        refine ev_iload_n dX7_says_47 rfl rfl ?_
        refine ev_iadd (v := nI (200 * (s_rl A) + k)) dX7_says_48 (nI_add (200 * (s_rl A)) k) ?_
        refine ev_iald (v := A 75 (200 * (s_rl A) + k)) dX7_says_49 (ly_k hI.ly 75 rfl) (am_ixn (by omega) (by decide)) (hI.rd 75 (200 * (s_rl A) + k) rfl) ?_
        refine ev_istore (lv' := [(0, .ref 65), (1, .int (nI P)), (2, .int (nI (st.length))), (3, .int (nI k)), (4, .int (A 75 (200 * (s_rl A) + k)))]) dX7_says_50 (by decide) rfl ?_
        have hc := s_slC (A := A) (t := s_rl A) (by omega : k < s_st A (s_rl A) (P + 1))
        rw [hc] at hr hw
        rw [s_runC] at hr
        generalize hcc : A 75 (200 * (s_rl A) + k) = c at hr hw ⊢
        rcases wf_cs (wf_d1 hw) with hk1 | ⟨j, hj, rfl⟩ | rfl | rfl | ⟨q1, q2, q3, q4⟩
        · skip
          have q1 : 100000 ≤ c := hk1.1
          have q2 : 11 ≤ c := by simp only [Int32.le_iff_toInt_le, Int32.reduceToInt] at *; omega
          obtain ⟨w1, w2⟩ := wf_dL hw (s_leafN q1)
          rw [s_oneN q1] at hr
          refine ev_iload dX7_says_52 rfl ?_
          refine ev_ldc dX7_says_54 ct_X7_149 ?_
          refine ev_icmp_ge (tgt := 66) dX7_says_56 (by decide) (fun _ => ?_) (fun c => absurd (q1) c)
          refine ev_aload_n dX7_says_66 rfl rfl ?_
          refine ev_getR (b := 86) dX7_says_67 fl_X7_70 (ly_k hI.ly 65 rfl) (ly_r hI.ly 49 rfl) ?_
          refine ev_iload_n dX7_says_70 rfl rfl ?_
          refine ev_iload dX7_says_71 rfl ?_
          refine ev_bipush (v := 11) dX7_says_73 (by decide) ?_
          refine ev_icmp_ge (tgt := 88) dX7_says_75 (by decide) (fun _ => ?_) (fun c => absurd (q2) c)
          refine ev_iload dX7_says_88 rfl ?_
          refine ev_ldc dX7_says_90 ct_X7_149 ?_
          refine ev_isub (v := c - 100000) dX7_says_92 rfl ?_
          refine ev_iast dX7_says_93 (ly_k hI.ly 86 rfl) (am_ixn (by omega) (by decide)) ?_
          refine ev_iinc (lv' := [(0, .ref 65), (1, .int (nI P)), (2, .int (nI ((st.length) + 1))), (3, .int (nI k)), (4, .int c)]) (v := nI ((st.length) + 1)) dX7_says_94 rfl (nI_1 _) (by decide) rfl ?_
          refine ev_goto (tgt := 191) dX7_says_97 (by decide) ?_
          refine ev_iinc (lv' := [(0, .ref 65), (1, .int (nI P)), (2, .int (nI ((st.length) + 1))), (3, .int (nI (k + 1))), (4, .int c)]) (v := nI (k + 1)) dX7_says_191 rfl (nI_1 _) (by decide) rfl ?_
          refine ev_goto (tgt := 16) dX7_says_194 (by decide) ?_
          refine ev_keep (lv' := [(0, .ref 65), (1, .int (nI P)), (2, .int (nI ((st.length) + 1))), (3, .int (nI (k + 1)))]) [0, 1, 2, 3] rfl ?_
          exact ih (k + 1) ((c - 100000) :: st) (am_sI σ1 86 st.length (c - 100000)) (by omega) (by rw [hr]) w2 (s_psp hp) (s_nak (by decide) hn) (by simp only [List.length_cons] at *; omega) (iv_M.sc rfl hI) (fr_M.wr (by decide) hF) (by omega)
        · skip
          have q1 : ¬ (100000 : Int32) ≤ nI j := nI_ge (a := j) (b := 100000) (by omega) (by omega)
          have q2 : ¬ (11 : Int32) ≤ nI j := nI_ge (a := j) (b := 11) (by omega) (by omega)
          obtain ⟨w1, w2⟩ := wf_dL hw (s_leafJ hj)
          rw [s_oneJ hj] at hr
          refine ev_iload dX7_says_52 rfl ?_
          refine ev_ldc dX7_says_54 ct_X7_149 ?_
          refine ev_icmp_ge (tgt := 66) dX7_says_56 (by decide) (fun c => absurd c (q1)) (fun _ => ?_)
          refine ev_iload dX7_says_59 rfl ?_
          refine ev_bipush (v := 11) dX7_says_61 (by decide) ?_
          refine ev_icmp_ge (tgt := 100) dX7_says_63 (by decide) (fun c => absurd c (q2)) (fun _ => ?_)
          refine ev_aload_n dX7_says_66 rfl rfl ?_
          refine ev_getR (b := 86) dX7_says_67 fl_X7_70 (ly_k hI.ly 65 rfl) (ly_r hI.ly 49 rfl) ?_
          refine ev_iload_n dX7_says_70 rfl rfl ?_
          refine ev_iload dX7_says_71 rfl ?_
          refine ev_bipush (v := 11) dX7_says_73 (by decide) ?_
          refine ev_icmp_ge (tgt := 88) dX7_says_75 (by decide) (fun c => absurd c (q2)) (fun _ => ?_)
          refine ev_aload_n dX7_says_78 rfl rfl ?_
          refine ev_getR (b := 87) dX7_says_79 fl_X7_73 (ly_k hI.ly 65 rfl) (ly_r hI.ly 50 rfl) ?_
          refine ev_iload dX7_says_82 rfl ?_
          refine ev_iald (v := nm j) dX7_says_84 (ly_k hI.ly 87 rfl) (am_ixn (by omega) (by decide)) (hn j hj) ?_
          refine ev_goto (tgt := 93) dX7_says_85 (by decide) ?_
          refine ev_iast dX7_says_93 (ly_k hI.ly 86 rfl) (am_ixn (by omega) (by decide)) ?_
          refine ev_iinc (lv' := [(0, .ref 65), (1, .int (nI P)), (2, .int (nI ((st.length) + 1))), (3, .int (nI k)), (4, .int (nI j))]) (v := nI ((st.length) + 1)) dX7_says_94 rfl (nI_1 _) (by decide) rfl ?_
          refine ev_goto (tgt := 191) dX7_says_97 (by decide) ?_
          refine ev_iinc (lv' := [(0, .ref 65), (1, .int (nI P)), (2, .int (nI ((st.length) + 1))), (3, .int (nI (k + 1))), (4, .int (nI j))]) (v := nI (k + 1)) dX7_says_191 rfl (nI_1 _) (by decide) rfl ?_
          refine ev_goto (tgt := 16) dX7_says_194 (by decide) ?_
          refine ev_keep (lv' := [(0, .ref 65), (1, .int (nI P)), (2, .int (nI ((st.length) + 1))), (3, .int (nI (k + 1)))]) [0, 1, 2, 3] rfl ?_
          exact ih (k + 1) ((nm j) :: st) (am_sI σ1 86 st.length (nm j)) (by omega) (by rw [hr]) w2 (s_psp hp) (s_nak (by decide) hn) (by simp only [List.length_cons] at *; omega) (iv_M.sc rfl hI) (fr_M.wr (by decide) hF) (by omega)
        · skip
          obtain ⟨w1, w2⟩ := wf_dU hw (by decide)
          obtain ⟨a, t, rfl⟩ : ∃ a t, st = a :: t := by cases st with | nil => exact absurd w1 (by decide) | cons a t => exact ⟨a, t, rfl⟩
          rw [s_one13] at hr
          simp only [List.length_cons] at hl hw
          refine ev_iload dX7_says_52 rfl ?_
          refine ev_ldc dX7_says_54 ct_X7_149 ?_
          refine ev_icmp_ge (tgt := 66) dX7_says_56 (by decide) (fun c => absurd c (by decide)) (fun _ => ?_)
          refine ev_iload dX7_says_59 rfl ?_
          refine ev_bipush (v := 11) dX7_says_61 (by decide) ?_
          refine ev_icmp_ge (tgt := 100) dX7_says_63 (by decide) (fun _ => ?_) (fun c => absurd (by decide) c)
          refine ev_iload dX7_says_100 rfl ?_
          refine ev_bipush (v := 13) dX7_says_102 (by decide) ?_
          refine ev_icmp_ne (tgt := 134) dX7_says_104 (by decide) (fun c => absurd (by decide) c) (fun _ => ?_)
          refine ev_aload_n dX7_says_107 rfl rfl ?_
          refine ev_getR (b := 86) dX7_says_108 fl_X7_70 (ly_k hI.ly 65 rfl) (ly_r hI.ly 49 rfl) ?_
          refine ev_iload_n dX7_says_111 rfl rfl ?_
          refine ev_iconst (v := 1) dX7_says_112 (by decide) ?_
          refine ev_isub (v := nI t.length) dX7_says_113 (nI_pred _) ?_
          refine ev_aload_n dX7_says_114 rfl rfl ?_
          refine ev_getR (b := 86) dX7_says_115 fl_X7_70 (ly_k hI.ly 65 rfl) (ly_r hI.ly 49 rfl) ?_
          refine ev_iload_n dX7_says_118 rfl rfl ?_
          refine ev_iconst (v := 1) dX7_says_119 (by decide) ?_
          refine ev_isub (v := nI t.length) dX7_says_120 (nI_pred _) ?_
          refine ev_iald (v := a) dX7_says_121 (ly_k hI.ly 86 rfl) (am_ixn (by omega) (by decide)) (s_psT hp) ?_
          refine ev_if_ne (tgt := 129) dX7_says_122 (by decide) (fun c2 => ?_) (fun c2 => ?_)
          · skip
            refine ev_iconst (v := 0) dX7_says_129 (by decide) ?_
            refine ev_iast dX7_says_130 (ly_k hI.ly 86 rfl) (am_ixn (by omega) (by decide)) ?_
            refine ev_goto (tgt := 191) dX7_says_131 (by decide) ?_
            refine ev_iinc (lv' := [(0, .ref 65), (1, .int (nI P)), (2, .int (nI (t.length + 1))), (3, .int (nI (k + 1))), (4, .int 13)]) (v := nI (k + 1)) dX7_says_191 rfl (nI_1 _) (by decide) rfl ?_
            refine ev_goto (tgt := 16) dX7_says_194 (by decide) ?_
            refine ev_keep (lv' := [(0, .ref 65), (1, .int (nI P)), (2, .int (nI (t.length + 1))), (3, .int (nI (k + 1)))]) [0, 1, 2, 3] rfl ?_
            exact ih (k + 1) (0 :: t) (am_sI σ1 86 t.length 0) (by omega) (by rw [← hr]; simp [*]) w2 (s_psp (s_psd hp)) (s_nak (by decide) hn) (by simp only [List.length_cons] at *; omega) (iv_M.sc rfl hI) (fr_M.wr (by decide) hF) (by omega)
          · skip
            refine ev_iconst (v := 1) dX7_says_125 (by decide) ?_
            refine ev_goto (tgt := 130) dX7_says_126 (by decide) ?_
            refine ev_iast dX7_says_130 (ly_k hI.ly 86 rfl) (am_ixn (by omega) (by decide)) ?_
            refine ev_goto (tgt := 191) dX7_says_131 (by decide) ?_
            refine ev_iinc (lv' := [(0, .ref 65), (1, .int (nI P)), (2, .int (nI (t.length + 1))), (3, .int (nI (k + 1))), (4, .int 13)]) (v := nI (k + 1)) dX7_says_191 rfl (nI_1 _) (by decide) rfl ?_
            refine ev_goto (tgt := 16) dX7_says_194 (by decide) ?_
            refine ev_keep (lv' := [(0, .ref 65), (1, .int (nI P)), (2, .int (nI (t.length + 1))), (3, .int (nI (k + 1)))]) [0, 1, 2, 3] rfl ?_
            exact ih (k + 1) (1 :: t) (am_sI σ1 86 t.length 1) (by omega) (by rw [← hr]; simp [*]) w2 (s_psp (s_psd hp)) (s_nak (by decide) hn) (by simp only [List.length_cons] at *; omega) (iv_M.sc rfl hI) (fr_M.wr (by decide) hF) (by omega)
        · skip
          obtain ⟨w1, w2⟩ := wf_dU hw (by decide)
          obtain ⟨a, t, rfl⟩ : ∃ a t, st = a :: t := by cases st with | nil => exact absurd w1 (by decide) | cons a t => exact ⟨a, t, rfl⟩
          rw [s_one19] at hr
          simp only [List.length_cons] at hl hw
          refine ev_iload dX7_says_52 rfl ?_
          refine ev_ldc dX7_says_54 ct_X7_149 ?_
          refine ev_icmp_ge (tgt := 66) dX7_says_56 (by decide) (fun c => absurd c (by decide)) (fun _ => ?_)
          refine ev_iload dX7_says_59 rfl ?_
          refine ev_bipush (v := 11) dX7_says_61 (by decide) ?_
          refine ev_icmp_ge (tgt := 100) dX7_says_63 (by decide) (fun _ => ?_) (fun c => absurd (by decide) c)
          refine ev_iload dX7_says_100 rfl ?_
          refine ev_bipush (v := 13) dX7_says_102 (by decide) ?_
          refine ev_icmp_ne (tgt := 134) dX7_says_104 (by decide) (fun _ => ?_) (fun c => absurd c (by decide))
          refine ev_iload dX7_says_134 rfl ?_
          refine ev_bipush (v := 19) dX7_says_136 (by decide) ?_
          refine ev_icmp_ne (tgt := 161) dX7_says_138 (by decide) (fun c => absurd (by decide) c) (fun _ => ?_)
          refine ev_aload_n dX7_says_141 rfl rfl ?_
          refine ev_getR (b := 86) dX7_says_142 fl_X7_70 (ly_k hI.ly 65 rfl) (ly_r hI.ly 49 rfl) ?_
          refine ev_iload_n dX7_says_145 rfl rfl ?_
          refine ev_iconst (v := 1) dX7_says_146 (by decide) ?_
          refine ev_isub (v := nI t.length) dX7_says_147 (nI_pred _) ?_
          refine ev_aload_n dX7_says_148 rfl rfl ?_
          refine ev_getR (b := 86) dX7_says_149 fl_X7_70 (ly_k hI.ly 65 rfl) (ly_r hI.ly 49 rfl) ?_
          refine ev_iload_n dX7_says_152 rfl rfl ?_
          refine ev_iconst (v := 1) dX7_says_153 (by decide) ?_
          refine ev_isub (v := nI t.length) dX7_says_154 (nI_pred _) ?_
          refine ev_iald (v := a) dX7_says_155 (ly_k hI.ly 86 rfl) (am_ixn (by omega) (by decide)) (s_psT hp) ?_
          refine ev_ineg (v := -a) dX7_says_156 rfl ?_
          refine ev_iast dX7_says_157 (ly_k hI.ly 86 rfl) (am_ixn (by omega) (by decide)) ?_
          refine ev_goto (tgt := 191) dX7_says_158 (by decide) ?_
          refine ev_iinc (lv' := [(0, .ref 65), (1, .int (nI P)), (2, .int (nI (t.length + 1))), (3, .int (nI (k + 1))), (4, .int 19)]) (v := nI (k + 1)) dX7_says_191 rfl (nI_1 _) (by decide) rfl ?_
          refine ev_goto (tgt := 16) dX7_says_194 (by decide) ?_
          refine ev_keep (lv' := [(0, .ref 65), (1, .int (nI P)), (2, .int (nI (t.length + 1))), (3, .int (nI (k + 1)))]) [0, 1, 2, 3] rfl ?_
          exact ih (k + 1) ((-a) :: t) (am_sI σ1 86 t.length (-a)) (by omega) (by rw [hr]) w2 (s_psp (s_psd hp)) (s_nak (by decide) hn) (by simp only [List.length_cons] at *; omega) (iv_M.sc rfl hI) (fr_M.wr (by decide) hF) (by omega)
        · skip
          have z1 : ¬ 100000 ≤ c := Int32.not_le.mpr q2
          obtain ⟨w1, w2⟩ := wf_dB hw (s_leafF q1 q2) (fun z => z.elim q3 q4)
          obtain ⟨b, a, t, rfl⟩ : ∃ b a t, st = b :: a :: t := by
            cases st with
            | nil => exact absurd w1 (by decide)
            | cons b t => cases t with
              | nil => exact absurd w1 (by simp)
              | cons a t => exact ⟨b, a, t, rfl⟩
          rw [s_oneB q1 q2 q3 q4] at hr
          simp only [List.length_cons] at hl hw w2
          refine ev_iload dX7_says_52 rfl ?_
          refine ev_ldc dX7_says_54 ct_X7_149 ?_
          refine ev_icmp_ge (tgt := 66) dX7_says_56 (by decide) (fun c => absurd c (z1)) (fun _ => ?_)
          refine ev_iload dX7_says_59 rfl ?_
          refine ev_bipush (v := 11) dX7_says_61 (by decide) ?_
          refine ev_icmp_ge (tgt := 100) dX7_says_63 (by decide) (fun _ => ?_) (fun c => absurd (q1) c)
          refine ev_iload dX7_says_100 rfl ?_
          refine ev_bipush (v := 13) dX7_says_102 (by decide) ?_
          refine ev_icmp_ne (tgt := 134) dX7_says_104 (by decide) (fun _ => ?_) (fun c => absurd c (q3))
          refine ev_iload dX7_says_134 rfl ?_
          refine ev_bipush (v := 19) dX7_says_136 (by decide) ?_
          refine ev_icmp_ne (tgt := 161) dX7_says_138 (by decide) (fun _ => ?_) (fun c => absurd c (q4))
          refine ev_iinc (lv' := [(0, .ref 65), (1, .int (nI P)), (2, .int (nI (t.length + 1))), (3, .int (nI k)), (4, .int c)]) (v := nI (t.length + 1)) dX7_says_161 rfl (pk_m1 _) (by decide) rfl ?_
          refine ev_aload_n dX7_says_164 rfl rfl ?_
          refine ev_getR (b := 86) dX7_says_165 fl_X7_70 (ly_k hI.ly 65 rfl) (ly_r hI.ly 49 rfl) ?_
          refine ev_iload_n dX7_says_168 rfl rfl ?_
          refine ev_iconst (v := 1) dX7_says_169 (by decide) ?_
          refine ev_isub (v := nI t.length) dX7_says_170 (nI_pred _) ?_
          refine ev_iload dX7_says_171 rfl ?_
          refine ev_aload_n dX7_says_173 rfl rfl ?_
          refine ev_getR (b := 86) dX7_says_174 fl_X7_70 (ly_k hI.ly 65 rfl) (ly_r hI.ly 49 rfl) ?_
          refine ev_iload_n dX7_says_177 rfl rfl ?_
          refine ev_iconst (v := 1) dX7_says_178 (by decide) ?_
          refine ev_isub (v := nI t.length) dX7_says_179 (nI_pred _) ?_
          refine ev_iald (v := a) dX7_says_180 (ly_k hI.ly 86 rfl) (am_ixn (by omega) (by decide)) (s_psT (s_psd hp)) ?_
          refine ev_aload_n dX7_says_181 rfl rfl ?_
          refine ev_getR (b := 86) dX7_says_182 fl_X7_70 (ly_k hI.ly 65 rfl) (ly_r hI.ly 49 rfl) ?_
          refine ev_iload_n dX7_says_185 rfl rfl ?_
          refine ev_iald (v := b) dX7_says_186 (ly_k hI.ly 86 rfl) (am_ixn (by omega) (by decide)) (s_psT hp) ?_
          refine ev_callS (as := [.int c, .int a, .int b]) (st := [.int (nI t.length), .ref 86]) dX7_says_187 mfX7_two lk_X7_163 (c_X7_two G D σ1 c a b) rfl rfl (Nat.le_of_ble_eq_true rfl) (am_hR (by omega) (by decide)) ⟨Nat.le_refl _, Nat.le_refl _⟩ ?_
          rintro _ _ ⟨rfl, rfl⟩
          refine ev_iast dX7_says_190 (ly_k hI.ly 86 rfl) (am_ixn (by omega) (by decide)) ?_
          refine ev_iinc (lv' := [(0, .ref 65), (1, .int (nI P)), (2, .int (nI (t.length + 1))), (3, .int (nI (k + 1))), (4, .int c)]) (v := nI (k + 1)) dX7_says_191 rfl (nI_1 _) (by decide) rfl ?_
          refine ev_goto (tgt := 16) dX7_says_194 (by decide) ?_
          refine ev_keep (lv' := [(0, .ref 65), (1, .int (nI P)), (2, .int (nI (t.length + 1))), (3, .int (nI (k + 1)))]) [0, 1, 2, 3] rfl ?_
          exact ih (k + 1) ((s_tw c a b) :: t) (am_sI σ1 86 t.length (s_tw c a b)) (by omega) (by rw [hr]) w2 (s_psp (s_psd (s_psd hp))) (s_nak (by decide) hn) (by simp only [List.length_cons] at *; omega) (iv_M.sc rfl hI) (fr_M.wr (by decide) hF) (by omega)
  refine ev_iconst (v := 0) dX7_says_0 (by decide) ?_
  refine ev_istore_n (lv' := [(0, .ref 65), (1, .int (nI P)), (2, .int 0)]) dX7_says_1 rfl (by decide) rfl ?_
  refine ev_aload_n dX7_says_2 rfl rfl ?_
  refine ev_getR (b := 76) dX7_says_3 fl_X7_40 (ly_k hI.ly 65 rfl) (ly_r hI.ly 39 rfl) ?_
  refine ev_iconst (v := 4) dX7_says_6 (by decide) ?_
  refine ev_aload_n dX7_says_7 rfl rfl ?_
  refine ev_getI (v := nI (s_rl A)) dX7_says_8 fl_X7_100 (ly_k hI.ly 65 rfl) ((hI.rd 65 15 rfl).trans (wf_rl hA)) ?_
  refine ev_imul (v := nI (4 * (s_rl A))) dX7_says_11 (pk_mul 4 (s_rl A)) ?_
  refine ev_iload_n dX7_says_12 rfl rfl ?_
  refine ev_iadd (v := nI (4 * (s_rl A) + P)) dX7_says_13 (nI_add (4 * (s_rl A)) P) ?_
  refine ev_iald (v := nI (s_st A (s_rl A) P)) dX7_says_14 (ly_k hI.ly 76 rfl) (am_ixn (by omega) (by decide)) ((hI.rd 76 (4 * (s_rl A) + P) rfl).trans hs0) ?_
  refine ev_istore_n (lv' := [(0, .ref 65), (1, .int (nI P)), (2, .int 0), (3, .int (nI (s_st A (s_rl A) P)))]) dX7_says_15 rfl (by decide) rfl ?_
  exact lp _ (s_st A (s_rl A) P) ([]) σ hse rfl hwd s_ps0 hn (Nat.zero_le _) hI fr_M.rf (Nat.lt_succ_self _)

