/-! the reference: images, sheets, feeding, taken -/
theorem am_15 {n : Int32} (h : 1 ≤ n ∧ n ≤ 5) : ∃ j, 1 ≤ j ∧ j ≤ 5 ∧ n = nI j := by
  obtain ⟨j, hj, rfl⟩ := (am_rgl (n := 6) (c := 5) (by decide)).mp ⟨Int32.le_trans (by decide) h.1, h.2⟩
  exact ⟨j, (nI_leI (a := 1) (b := j) (by decide) (by omega)).mp h.1, by omega, rfl⟩
theorem am_sz {A : am_S} {s : Nat} (h : wf_A A) (hs : s < 4) : ∃ m, m ≤ 40 ∧ A 81 s = nI m := by
  obtain ⟨m, hm, e⟩ := (wf_ss h s hs).2
  exact ⟨m, by omega, e⟩
set_option maxHeartbeats 400000 in
set_option maxRecDepth 100000 in
theorem c_X7_image (G : am_G) (D : Nat) (A : am_S) (σ : am_M) (hA : wf_A A) (hI : iv_M A σ)  : am_Mt G D mX7_image [.ref 65] σ 0 0 (am_qP (sp_image A) σ) := by
  have b7 := wf_np7 hA
  have b8 := wf_nq8 hA
  have b6 := wf_nt6 hA
  have b61 := wf_nt1 hA
  have b160 := wf_tp160 hA
  have brl := wf_rlt hA
  refine am_of moX7_image (Nat.le_of_ble_eq_true rfl) ?_
  show am_Ev G mX7_image (am_R D 0 0) 0 0 (am_qP (sp_image A) σ) 0 [(0, .ref 65)] [] σ 0 0
  refine ev_aload_n dX7_image_0 rfl rfl ?_
  refine ev_iconst (v := 1) dX7_image_1 (by decide) ?_
  refine ev_putZ dX7_image_2 fl_X7_270 rfl rfl (Or.inr rfl) (ly_k hI.ly 65 rfl) ?_
  refine ev_aload_n dX7_image_5 rfl rfl ?_
  refine ev_aload_n dX7_image_6 rfl rfl ?_
  refine ev_getI (v := A 65 0) dX7_image_7 fl_X7_87 (ly_k (iv_M.up hI).ly 65 rfl) (am_ru (by omega) (hI.rd 65 0 rfl)) ?_
  refine ev_putI dX7_image_10 fl_X7_274 rfl rfl (ly_k (iv_M.up hI).ly 65 rfl) ?_
  refine ev_aload_n dX7_image_13 rfl rfl ?_
  refine ev_aload_n dX7_image_14 rfl rfl ?_
  refine ev_getI (v := A 65 6) dX7_image_15 fl_X7_94 (ly_k (iv_M.up (iv_M.up hI)).ly 65 rfl) (am_ru (by omega) (am_ru (by omega) (hI.rd 65 6 rfl))) ?_
  refine ev_putI dX7_image_18 fl_X7_277 rfl rfl (ly_k (iv_M.up (iv_M.up hI)).ly 65 rfl) ?_
  refine ev_aload_n dX7_image_21 rfl rfl ?_
  refine ev_aload_n dX7_image_22 rfl rfl ?_
  refine ev_getI (v := A 65 15) dX7_image_23 fl_X7_100 (ly_k (iv_M.up (iv_M.up (iv_M.up hI))).ly 65 rfl) (am_ru (by omega) (am_ru (by omega) (am_ru (by omega) (hI.rd 65 15 rfl)))) ?_
  refine ev_putI dX7_image_26 fl_X7_280 rfl rfl (ly_k (iv_M.up (iv_M.up (iv_M.up hI))).ly 65 rfl) ?_
  refine ev_iconst (v := 0) dX7_image_29 (by decide) ?_
  refine ev_istore_n (lv' := [(0, .ref 65), (1, .int 0)]) dX7_image_30 rfl (by decide) rfl ?_
  have ln : ∀ (f : Nat) (n : Nat) (σn : am_M), (n ≤ 7) → (iv_M (s_cpy (s_i0 A) 69 77 n) σn) → (fr_M σ σn) → 7 - n < f → am_Ev G mX7_image (am_R D 0 0) 0 0 (am_qP (sp_image A) σ) 31 [(0, .ref 65), (1, .int (nI n))] [] σn 0 0 := by
    intro f
    induction f with
    | zero => intro n σn hn hIn hFn hf; exact absurd hf (Nat.not_lt_zero _)
    | succ f ih_ln =>
      intro n σn hn hIn hFn hf
      refine ev_iload_n dX7_image_31 rfl rfl ?_
      refine ev_bipush (v := 7) dX7_image_32 (by decide) ?_
      refine ev_icmp_ge (tgt := 55) dX7_image_34 (by decide) (fun c1 => ?_) (fun c1 => ?_)
      · skip
        have c1n : 7 ≤ n := (nI_leI (a := 7) (b := n) (by omega) (by omega)).mp c1
        refine ev_iconst (v := 0) dX7_image_55 (by decide) ?_
        refine ev_istore_n (lv' := [(0, .ref 65), (1, .int 0)]) dX7_image_56 rfl (by decide) rfl ?_
        have lm : ∀ (f : Nat) (m : Nat) (σm : am_M), (m ≤ 28) → (iv_M (s_cpy (s_cpy (s_i0 A) 69 77 7) 70 78 m) σm) → (fr_M σ σm) → 28 - m < f → am_Ev G mX7_image (am_R D 0 0) 0 0 (am_qP (sp_image A) σ) 57 [(0, .ref 65), (1, .int (nI m))] [] σm 0 0 := by
          intro f
          induction f with
          | zero => intro m σm hm hIm hFm hf; exact absurd hf (Nat.not_lt_zero _)
          | succ f ih_lm =>
            intro m σm hm hIm hFm hf
            refine ev_iload_n dX7_image_57 rfl rfl ?_
            refine ev_bipush (v := 28) dX7_image_58 (by decide) ?_
            refine ev_icmp_ge (tgt := 81) dX7_image_60 (by decide) (fun c2 => ?_) (fun c2 => ?_)
            · skip
              have c2n : 28 ≤ m := (nI_leI (a := 28) (b := m) (by omega) (by omega)).mp c2
              refine ev_iconst (v := 0) dX7_image_81 (by decide) ?_
              refine ev_istore_n (lv' := [(0, .ref 65), (1, .int 0)]) dX7_image_82 rfl (by decide) rfl ?_
              have lr : ∀ (f : Nat) (r : Nat) (σr : am_M), (r ≤ 3) → (iv_M (s_cpy (s_cpy (s_cpy (s_i0 A) 69 77 7) 70 78 28) 73 79 r) σr) → (fr_M σ σr) → 3 - r < f → am_Ev G mX7_image (am_R D 0 0) 0 0 (am_qP (sp_image A) σ) 83 [(0, .ref 65), (1, .int (nI r))] [] σr 0 0 := by
                intro f
                induction f with
                | zero => intro r σr hr hIr hFr hf; exact absurd hf (Nat.not_lt_zero _)
                | succ f ih_lr =>
                  intro r σr hr hIr hFr hf
                  refine ev_iload_n dX7_image_83 rfl rfl ?_
                  refine ev_iconst (v := 3) dX7_image_84 (by decide) ?_
                  refine ev_icmp_ge (tgt := 106) dX7_image_85 (by decide) (fun c3 => ?_) (fun c3 => ?_)
                  · skip
                    have c3n : 3 ≤ r := (nI_leI (a := 3) (b := r) (by omega) (by omega)).mp c3
                    refine ev_aload_n dX7_image_106 rfl rfl ?_
                    refine ev_getI (v := A 65 0) dX7_image_107 fl_X7_87 (ly_k hIr.ly 65 rfl) ((hIr.rd 65 0 rfl).trans (by rw [s_cpy_x (by decide), s_cpy_x (by decide), s_cpy_x (by decide), s_i0_x (by decide)])) ?_
                    refine ev_reti dX7_image_110 rfl (Nat.zero_le _) (Nat.zero_le _) ?_
                    have e : r = 3 := by omega
                    subst e
                    exact am_qPi (x := sp_image A) rfl hIr hFr
                  · skip
                    have c3n : ¬ 3 ≤ r := fun zz => c3 ((nI_leI (a := 3) (b := r) (by omega) (by omega)).mpr zz)
                    refine ev_aload_n dX7_image_88 rfl rfl ?_
                    refine ev_getR (b := 79) dX7_image_89 fl_X7_49 (ly_k hIr.ly 65 rfl) (ly_r hIr.ly 42 rfl) ?_
                    refine ev_iload_n dX7_image_92 rfl rfl ?_
                    refine ev_aload_n dX7_image_93 rfl rfl ?_
                    refine ev_getR (b := 73) dX7_image_94 fl_X7_31 (ly_k hIr.ly 65 rfl) (ly_r hIr.ly 36 rfl) ?_
                    refine ev_iload_n dX7_image_97 rfl rfl ?_
                    refine ev_iald (v := (s_cpy (s_cpy (s_i0 A) 69 77 7) 70 78 28) 73 r) dX7_image_98 (ly_k hIr.ly 73 rfl) (am_ixn (by omega) (by decide)) ((hIr.rd 73 r rfl).trans (s_cpy_x (by decide))) ?_
                    refine ev_iast dX7_image_99 (ly_k hIr.ly 79 rfl) (am_ixn (by omega) (by decide)) ?_
                    refine ev_iinc (lv' := [(0, .ref 65), (1, .int (nI (r + 1)))]) (v := nI (r + 1)) dX7_image_100 rfl (nI_1 _) (by decide) rfl ?_
                    refine ev_goto (tgt := 83) dX7_image_103 (by decide) ?_
                    exact ih_lr (r + 1) (am_sI σr 79 r ((s_cpy (s_cpy (s_i0 A) 69 77 7) 70 78 28) 73 r)) (by omega) (iv_M.up hIr) (fr_M.wr (by decide) hFr) (by omega)
              exact lr _ 0 σm (by omega) (by have e : m = 28 := (by omega); subst e; exact hIm) hFm (Nat.lt_succ_self _)
            · skip
              have c2n : ¬ 28 ≤ m := fun zz => c2 ((nI_leI (a := 28) (b := m) (by omega) (by omega)).mpr zz)
              refine ev_aload_n dX7_image_63 rfl rfl ?_
              refine ev_getR (b := 78) dX7_image_64 fl_X7_46 (ly_k hIm.ly 65 rfl) (ly_r hIm.ly 41 rfl) ?_
              refine ev_iload_n dX7_image_67 rfl rfl ?_
              refine ev_aload_n dX7_image_68 rfl rfl ?_
              refine ev_getR (b := 70) dX7_image_69 fl_X7_22 (ly_k hIm.ly 65 rfl) (ly_r hIm.ly 33 rfl) ?_
              refine ev_iload_n dX7_image_72 rfl rfl ?_
              refine ev_iald (v := (s_cpy (s_i0 A) 69 77 7) 70 m) dX7_image_73 (ly_k hIm.ly 70 rfl) (am_ixn (by omega) (by decide)) ((hIm.rd 70 m rfl).trans (s_cpy_x (by decide))) ?_
              refine ev_iast dX7_image_74 (ly_k hIm.ly 78 rfl) (am_ixn (by omega) (by decide)) ?_
              refine ev_iinc (lv' := [(0, .ref 65), (1, .int (nI (m + 1)))]) (v := nI (m + 1)) dX7_image_75 rfl (nI_1 _) (by decide) rfl ?_
              refine ev_goto (tgt := 57) dX7_image_78 (by decide) ?_
              exact ih_lm (m + 1) (am_sI σm 78 m ((s_cpy (s_i0 A) 69 77 7) 70 m)) (by omega) (iv_M.up hIm) (fr_M.wr (by decide) hFm) (by omega)
        exact lm _ 0 σn (by omega) (by have e : n = 7 := (by omega); subst e; exact hIn) hFn (Nat.lt_succ_self _)
      · skip
        have c1n : ¬ 7 ≤ n := fun zz => c1 ((nI_leI (a := 7) (b := n) (by omega) (by omega)).mpr zz)
        refine ev_aload_n dX7_image_37 rfl rfl ?_
        refine ev_getR (b := 77) dX7_image_38 fl_X7_43 (ly_k hIn.ly 65 rfl) (ly_r hIn.ly 40 rfl) ?_
        refine ev_iload_n dX7_image_41 rfl rfl ?_
        refine ev_aload_n dX7_image_42 rfl rfl ?_
        refine ev_getR (b := 69) dX7_image_43 fl_X7_19 (ly_k hIn.ly 65 rfl) (ly_r hIn.ly 32 rfl) ?_
        refine ev_iload_n dX7_image_46 rfl rfl ?_
        refine ev_iald (v := (s_i0 A) 69 n) dX7_image_47 (ly_k hIn.ly 69 rfl) (am_ixn (by omega) (by decide)) ((hIn.rd 69 n rfl).trans (s_cpy_x (by decide))) ?_
        refine ev_iast dX7_image_48 (ly_k hIn.ly 77 rfl) (am_ixn (by omega) (by decide)) ?_
        refine ev_iinc (lv' := [(0, .ref 65), (1, .int (nI (n + 1)))]) (v := nI (n + 1)) dX7_image_49 rfl (nI_1 _) (by decide) rfl ?_
        refine ev_goto (tgt := 31) dX7_image_52 (by decide) ?_
        exact ih_ln (n + 1) (am_sI σn 77 n ((s_i0 A) 69 n)) (by omega) (iv_M.up hIn) (fr_M.wr (by decide) hFn) (by omega)
  exact ln _ 0 (am_sI (am_sI (am_sI (am_sI σ 65 16 1) 65 17 (A 65 0)) 65 18 (A 65 6)) 65 19 (A 65 15)) (by omega) (iv_M.up (iv_M.up (iv_M.up (iv_M.up hI)))) (fr_M.wr (by decide) (fr_M.wr (by decide) (fr_M.wr (by decide) (fr_M.wr (by decide) fr_M.rf)))) (Nat.lt_succ_self _)

set_option maxHeartbeats 400000 in
set_option maxRecDepth 100000 in
theorem c_X7_back (G : am_G) (D : Nat) (A : am_S) (σ : am_M) (hA : wf_A A) (hI : iv_M A σ)  : am_Mt G D mX7_back [.ref 65] σ 0 0 (am_qP (sp_back A) σ) := by
  have b7 := wf_np7 hA
  have b8 := wf_nq8 hA
  have b6 := wf_nt6 hA
  have b61 := wf_nt1 hA
  have b160 := wf_tp160 hA
  have brl := wf_rlt hA
  refine am_of moX7_back (Nat.le_of_ble_eq_true rfl) ?_
  show am_Ev G mX7_back (am_R D 0 0) 0 0 (am_qP (sp_back A) σ) 0 [(0, .ref 65)] [] σ 0 0
  refine ev_aload_n dX7_back_0 rfl rfl ?_
  refine ev_getI (v := A 65 16) dX7_back_1 fl_X7_270 (ly_k hI.ly 65 rfl) (hI.rd 65 16 rfl) ?_
  refine ev_if_ne (tgt := 10) dX7_back_4 (by decide) (fun c1 => ?_) (fun c1 => ?_)
  · skip
    refine ev_aload_n dX7_back_10 rfl rfl ?_
    refine ev_aload_n dX7_back_11 rfl rfl ?_
    refine ev_getI (v := A 65 17) dX7_back_12 fl_X7_274 (ly_k hI.ly 65 rfl) (hI.rd 65 17 rfl) ?_
    refine ev_putI dX7_back_15 fl_X7_87 rfl rfl (ly_k hI.ly 65 rfl) ?_
    refine ev_aload_n dX7_back_18 rfl rfl ?_
    refine ev_aload_n dX7_back_19 rfl rfl ?_
    refine ev_getI (v := A 65 18) dX7_back_20 fl_X7_277 (ly_k (iv_M.up hI).ly 65 rfl) (am_ru (by omega) (hI.rd 65 18 rfl)) ?_
    refine ev_putI dX7_back_23 fl_X7_94 rfl rfl (ly_k (iv_M.up hI).ly 65 rfl) ?_
    refine ev_aload_n dX7_back_26 rfl rfl ?_
    refine ev_aload_n dX7_back_27 rfl rfl ?_
    refine ev_getI (v := A 65 19) dX7_back_28 fl_X7_280 (ly_k (iv_M.up (iv_M.up hI)).ly 65 rfl) (am_ru (by omega) (am_ru (by omega) (hI.rd 65 19 rfl))) ?_
    refine ev_putI dX7_back_31 fl_X7_100 rfl rfl (ly_k (iv_M.up (iv_M.up hI)).ly 65 rfl) ?_
    refine ev_iconst (v := 0) dX7_back_34 (by decide) ?_
    refine ev_istore_n (lv' := [(0, .ref 65), (1, .int 0)]) dX7_back_35 rfl (by decide) rfl ?_
    have ln : ∀ (f : Nat) (n : Nat) (σn : am_M), (n ≤ 7) → (iv_M (s_cpy (s_b0 A) 77 69 n) σn) → (fr_M σ σn) → 7 - n < f → am_Ev G mX7_back (am_R D 0 0) 0 0 (am_qP (sp_back A) σ) 36 [(0, .ref 65), (1, .int (nI n))] [] σn 0 0 := by
      intro f
      induction f with
      | zero => intro n σn hn hIn hFn hf; exact absurd hf (Nat.not_lt_zero _)
      | succ f ih_ln =>
        intro n σn hn hIn hFn hf
        refine ev_iload_n dX7_back_36 rfl rfl ?_
        refine ev_bipush (v := 7) dX7_back_37 (by decide) ?_
        refine ev_icmp_ge (tgt := 60) dX7_back_39 (by decide) (fun c2 => ?_) (fun c2 => ?_)
        · skip
          have c2n : 7 ≤ n := (nI_leI (a := 7) (b := n) (by omega) (by omega)).mp c2
          refine ev_iconst (v := 0) dX7_back_60 (by decide) ?_
          refine ev_istore_n (lv' := [(0, .ref 65), (1, .int 0)]) dX7_back_61 rfl (by decide) rfl ?_
          have lm : ∀ (f : Nat) (m : Nat) (σm : am_M), (m ≤ 28) → (iv_M (s_cpy (s_cpy (s_b0 A) 77 69 7) 78 70 m) σm) → (fr_M σ σm) → 28 - m < f → am_Ev G mX7_back (am_R D 0 0) 0 0 (am_qP (sp_back A) σ) 62 [(0, .ref 65), (1, .int (nI m))] [] σm 0 0 := by
            intro f
            induction f with
            | zero => intro m σm hm hIm hFm hf; exact absurd hf (Nat.not_lt_zero _)
            | succ f ih_lm =>
              intro m σm hm hIm hFm hf
              refine ev_iload_n dX7_back_62 rfl rfl ?_
              refine ev_bipush (v := 28) dX7_back_63 (by decide) ?_
              refine ev_icmp_ge (tgt := 86) dX7_back_65 (by decide) (fun c3 => ?_) (fun c3 => ?_)
              · skip
                have c3n : 28 ≤ m := (nI_leI (a := 28) (b := m) (by omega) (by omega)).mp c3
                refine ev_iconst (v := 0) dX7_back_86 (by decide) ?_
                refine ev_istore_n (lv' := [(0, .ref 65), (1, .int 0)]) dX7_back_87 rfl (by decide) rfl ?_
                have lr : ∀ (f : Nat) (r : Nat) (σr : am_M), (r ≤ 3) → (iv_M (s_cpy (s_cpy (s_cpy (s_b0 A) 77 69 7) 78 70 28) 79 73 r) σr) → (fr_M σ σr) → 3 - r < f → am_Ev G mX7_back (am_R D 0 0) 0 0 (am_qP (sp_back A) σ) 88 [(0, .ref 65), (1, .int (nI r))] [] σr 0 0 := by
                  intro f
                  induction f with
                  | zero => intro r σr hr hIr hFr hf; exact absurd hf (Nat.not_lt_zero _)
                  | succ f ih_lr =>
                    intro r σr hr hIr hFr hf
                    refine ev_iload_n dX7_back_88 rfl rfl ?_
                    refine ev_iconst (v := 3) dX7_back_89 (by decide) ?_
                    refine ev_icmp_ge (tgt := 111) dX7_back_90 (by decide) (fun c4 => ?_) (fun c4 => ?_)
                    · skip
                      have c4n : 3 ≤ r := (nI_leI (a := 3) (b := r) (by omega) (by omega)).mp c4
                      refine ev_aload_n dX7_back_111 rfl rfl ?_
                      refine ev_getI (v := A 65 17) dX7_back_112 fl_X7_87 (ly_k hIr.ly 65 rfl) ((hIr.rd 65 0 rfl).trans (by rw [s_cpy_x (by decide), s_cpy_x (by decide), s_cpy_x (by decide)]; rfl)) ?_
                      refine ev_reti dX7_back_115 rfl (Nat.zero_le _) (Nat.zero_le _) ?_
                      have e : r = 3 := by omega
                      subst e
                      exact am_qPi (x := sp_back A) (if_neg c1) hIr hFr
                    · skip
                      have c4n : ¬ 3 ≤ r := fun zz => c4 ((nI_leI (a := 3) (b := r) (by omega) (by omega)).mpr zz)
                      refine ev_aload_n dX7_back_93 rfl rfl ?_
                      refine ev_getR (b := 73) dX7_back_94 fl_X7_31 (ly_k hIr.ly 65 rfl) (ly_r hIr.ly 36 rfl) ?_
                      refine ev_iload_n dX7_back_97 rfl rfl ?_
                      refine ev_aload_n dX7_back_98 rfl rfl ?_
                      refine ev_getR (b := 79) dX7_back_99 fl_X7_49 (ly_k hIr.ly 65 rfl) (ly_r hIr.ly 42 rfl) ?_
                      refine ev_iload_n dX7_back_102 rfl rfl ?_
                      refine ev_iald (v := (s_cpy (s_cpy (s_b0 A) 77 69 7) 78 70 28) 79 r) dX7_back_103 (ly_k hIr.ly 79 rfl) (am_ixn (by omega) (by decide)) ((hIr.rd 79 r rfl).trans (s_cpy_x (by decide))) ?_
                      refine ev_iast dX7_back_104 (ly_k hIr.ly 73 rfl) (am_ixn (by omega) (by decide)) ?_
                      refine ev_iinc (lv' := [(0, .ref 65), (1, .int (nI (r + 1)))]) (v := nI (r + 1)) dX7_back_105 rfl (nI_1 _) (by decide) rfl ?_
                      refine ev_goto (tgt := 88) dX7_back_108 (by decide) ?_
                      exact ih_lr (r + 1) (am_sI σr 73 r ((s_cpy (s_cpy (s_b0 A) 77 69 7) 78 70 28) 79 r)) (by omega) (iv_M.up hIr) (fr_M.wr (by decide) hFr) (by omega)
                exact lr _ 0 σm (by omega) (by have e : m = 28 := (by omega); subst e; exact hIm) hFm (Nat.lt_succ_self _)
              · skip
                have c3n : ¬ 28 ≤ m := fun zz => c3 ((nI_leI (a := 28) (b := m) (by omega) (by omega)).mpr zz)
                refine ev_aload_n dX7_back_68 rfl rfl ?_
                refine ev_getR (b := 70) dX7_back_69 fl_X7_22 (ly_k hIm.ly 65 rfl) (ly_r hIm.ly 33 rfl) ?_
                refine ev_iload_n dX7_back_72 rfl rfl ?_
                refine ev_aload_n dX7_back_73 rfl rfl ?_
                refine ev_getR (b := 78) dX7_back_74 fl_X7_46 (ly_k hIm.ly 65 rfl) (ly_r hIm.ly 41 rfl) ?_
                refine ev_iload_n dX7_back_77 rfl rfl ?_
                refine ev_iald (v := (s_cpy (s_b0 A) 77 69 7) 78 m) dX7_back_78 (ly_k hIm.ly 78 rfl) (am_ixn (by omega) (by decide)) ((hIm.rd 78 m rfl).trans (s_cpy_x (by decide))) ?_
                refine ev_iast dX7_back_79 (ly_k hIm.ly 70 rfl) (am_ixn (by omega) (by decide)) ?_
                refine ev_iinc (lv' := [(0, .ref 65), (1, .int (nI (m + 1)))]) (v := nI (m + 1)) dX7_back_80 rfl (nI_1 _) (by decide) rfl ?_
                refine ev_goto (tgt := 62) dX7_back_83 (by decide) ?_
                exact ih_lm (m + 1) (am_sI σm 70 m ((s_cpy (s_b0 A) 77 69 7) 78 m)) (by omega) (iv_M.up hIm) (fr_M.wr (by decide) hFm) (by omega)
          exact lm _ 0 σn (by omega) (by have e : n = 7 := (by omega); subst e; exact hIn) hFn (Nat.lt_succ_self _)
        · skip
          have c2n : ¬ 7 ≤ n := fun zz => c2 ((nI_leI (a := 7) (b := n) (by omega) (by omega)).mpr zz)
          refine ev_aload_n dX7_back_42 rfl rfl ?_
          refine ev_getR (b := 69) dX7_back_43 fl_X7_19 (ly_k hIn.ly 65 rfl) (ly_r hIn.ly 32 rfl) ?_
          refine ev_iload_n dX7_back_46 rfl rfl ?_
          refine ev_aload_n dX7_back_47 rfl rfl ?_
          refine ev_getR (b := 77) dX7_back_48 fl_X7_43 (ly_k hIn.ly 65 rfl) (ly_r hIn.ly 40 rfl) ?_
          refine ev_iload_n dX7_back_51 rfl rfl ?_
          refine ev_iald (v := (s_b0 A) 77 n) dX7_back_52 (ly_k hIn.ly 77 rfl) (am_ixn (by omega) (by decide)) ((hIn.rd 77 n rfl).trans (s_cpy_x (by decide))) ?_
          refine ev_iast dX7_back_53 (ly_k hIn.ly 69 rfl) (am_ixn (by omega) (by decide)) ?_
          refine ev_iinc (lv' := [(0, .ref 65), (1, .int (nI (n + 1)))]) (v := nI (n + 1)) dX7_back_54 rfl (nI_1 _) (by decide) rfl ?_
          refine ev_goto (tgt := 36) dX7_back_57 (by decide) ?_
          exact ih_ln (n + 1) (am_sI σn 69 n ((s_b0 A) 77 n)) (by omega) (iv_M.up hIn) (fr_M.wr (by decide) hFn) (by omega)
    exact ln _ 0 (am_sI (am_sI (am_sI σ 65 0 (A 65 17)) 65 6 (A 65 18)) 65 15 (A 65 19)) (by omega) (iv_M.up (iv_M.up (iv_M.up hI))) (fr_M.wr (by decide) (fr_M.wr (by decide) (fr_M.wr (by decide) fr_M.rf))) (Nat.lt_succ_self _)
  · skip
    refine ev_bipush (v := (-3)) dX7_back_7 (by decide) ?_
    refine ev_reti dX7_back_9 rfl (Nat.zero_le _) (Nat.zero_le _) ?_
    exact am_qPi (x := sp_back A) (if_pos c1) hI fr_M.rf

set_option maxHeartbeats 400000 in
set_option maxRecDepth 100000 in
theorem c_X7_feed (G : am_G) (D : Nat) (A : am_S) (σ : am_M) (hA : wf_A A) (hI : iv_M A σ) (n a b c d e : Int32) : am_Mt G (D + 2) mX7_feed [.ref 65, .int n, .int a, .int b, .int c, .int d, .int e] σ 0 0 (am_qP (sp_feed A n a b c d e) σ) := by
  have b7 := wf_np7 hA
  have b8 := wf_nq8 hA
  have b6 := wf_nt6 hA
  have b61 := wf_nt1 hA
  have b160 := wf_tp160 hA
  have brl := wf_rlt hA
  refine am_of moX7_feed (Nat.le_of_ble_eq_true rfl) ?_
  show am_Ev G mX7_feed (am_R (D + 2) 0 0) 0 0 (am_qP (sp_feed A n a b c d e) σ) 0 [(0, .ref 65), (1, .int n), (2, .int a), (3, .int b), (4, .int c), (5, .int d), (6, .int e)] [] σ 0 0
  refine ev_iload_n dX7_feed_0 rfl rfl ?_
  refine ev_iconst (v := 1) dX7_feed_1 (by decide) ?_
  refine ev_iconst (v := 5) dX7_feed_2 (by decide) ?_
  refine ev_callS (as := [.int n, .int 1, .int 5]) (st := []) dX7_feed_3 mfX7_in lk_X7_90 (c_X7_in G (D + 1) σ n 1 5) rfl rfl (Nat.le_of_ble_eq_true rfl) (am_hR (by omega) (by decide)) ⟨Nat.le_refl _, Nat.le_refl _⟩ ?_
  rintro _ _ (⟨h1, rfl, rfl⟩ | ⟨h1, rfl, rfl⟩)
  · skip
    obtain ⟨jn, hj1, hj5, rfl⟩ := am_15 h1
    refine ev_if_eq (tgt := 47) dX7_feed_6 (by decide) (fun c => absurd c (by decide)) (fun _ => ?_)
    refine ev_iload_n dX7_feed_9 rfl rfl ?_
    refine ev_callS (as := [.int a]) (st := []) dX7_feed_10 mfX7_isByte lk_X7_103 (c_X7_isByte G D σ a) rfl rfl (Nat.le_of_ble_eq_true rfl) (am_hR (by omega) (by decide)) ⟨Nat.le_refl _, Nat.le_refl _⟩ ?_
    rintro _ _ (⟨⟨j2, h2, rfl⟩, rfl, rfl⟩ | ⟨h2, rfl, rfl⟩)
    · skip
      refine ev_if_eq (tgt := 47) dX7_feed_13 (by decide) (fun c => absurd c (by decide)) (fun _ => ?_)
      refine ev_iload_n dX7_feed_16 rfl rfl ?_
      refine ev_callS (as := [.int b]) (st := []) dX7_feed_17 mfX7_isByte lk_X7_103 (c_X7_isByte G D σ b) rfl rfl (Nat.le_of_ble_eq_true rfl) (am_hR (by omega) (by decide)) ⟨Nat.le_refl _, Nat.le_refl _⟩ ?_
      rintro _ _ (⟨⟨j3, h3, rfl⟩, rfl, rfl⟩ | ⟨h3, rfl, rfl⟩)
      · skip
        refine ev_if_eq (tgt := 47) dX7_feed_20 (by decide) (fun c => absurd c (by decide)) (fun _ => ?_)
        refine ev_iload dX7_feed_23 rfl ?_
        refine ev_callS (as := [.int c]) (st := []) dX7_feed_25 mfX7_isByte lk_X7_103 (c_X7_isByte G D σ c) rfl rfl (Nat.le_of_ble_eq_true rfl) (am_hR (by omega) (by decide)) ⟨Nat.le_refl _, Nat.le_refl _⟩ ?_
        rintro _ _ (⟨⟨j4, h4, rfl⟩, rfl, rfl⟩ | ⟨h4, rfl, rfl⟩)
        · skip
          refine ev_if_eq (tgt := 47) dX7_feed_28 (by decide) (fun c => absurd c (by decide)) (fun _ => ?_)
          refine ev_iload dX7_feed_31 rfl ?_
          refine ev_callS (as := [.int d]) (st := []) dX7_feed_33 mfX7_isByte lk_X7_103 (c_X7_isByte G D σ d) rfl rfl (Nat.le_of_ble_eq_true rfl) (am_hR (by omega) (by decide)) ⟨Nat.le_refl _, Nat.le_refl _⟩ ?_
          rintro _ _ (⟨⟨j5, h5, rfl⟩, rfl, rfl⟩ | ⟨h5, rfl, rfl⟩)
          · skip
            refine ev_if_eq (tgt := 47) dX7_feed_36 (by decide) (fun c => absurd c (by decide)) (fun _ => ?_)
            refine ev_iload dX7_feed_39 rfl ?_
            refine ev_callS (as := [.int e]) (st := []) dX7_feed_41 mfX7_isByte lk_X7_103 (c_X7_isByte G D σ e) rfl rfl (Nat.le_of_ble_eq_true rfl) (am_hR (by omega) (by decide)) ⟨Nat.le_refl _, Nat.le_refl _⟩ ?_
            rintro _ _ (⟨⟨j6, h6, rfl⟩, rfl, rfl⟩ | ⟨h6, rfl, rfl⟩)
            · skip
              refine ev_if_ne (tgt := 50) dX7_feed_44 (by decide) (fun _ => ?_) (fun c => absurd c (by decide))
              refine ev_aload_n dX7_feed_50 rfl rfl ?_
              refine ev_getI (v := nI (s_tp A)) dX7_feed_51 fl_X7_79 (ly_k hI.ly 65 rfl) ((hI.rd 65 11 rfl).trans (wf_tp hA)) ?_
              refine ev_iload_n dX7_feed_54 rfl rfl ?_
              refine ev_iadd (v := nI (s_tp A + jn)) dX7_feed_55 (nI_add (s_tp A) jn) ?_
              refine ev_sipush (v := 160) dX7_feed_56 (by decide) ?_
              refine ev_icmp_le (tgt := 65) dX7_feed_59 (by decide) (fun c7 => ?_) (fun c7 => ?_)
              · skip
                have c7n : (s_tp A + jn) ≤ 160 := (nI_leI (a := (s_tp A + jn)) (b := 160) (by omega) (by omega)).mp c7
                rcases (show jn = 1 ∨ jn = 2 ∨ jn = 3 ∨ jn = 4 ∨ jn = 5 by omega) with rfl | rfl | rfl | rfl | rfl
                · skip
                  refine ev_iconst (v := 0) dX7_feed_65 (by decide) ?_
                  refine ev_istore (lv' := [(0, .ref 65), (1, .int (nI 1)), (2, .int (nI j2)), (3, .int (nI j3)), (4, .int (nI j4)), (5, .int (nI j5)), (6, .int (nI j6)), (7, .int 0)]) dX7_feed_66 (by decide) rfl ?_
                  refine ev_iload dX7_feed_68 rfl ?_
                  refine ev_iload_n dX7_feed_70 rfl rfl ?_
                  refine ev_icmp_ge (tgt := 142) dX7_feed_71 (by decide) (fun c => absurd c (by decide)) (fun _ => ?_)
                  refine ev_aload_n dX7_feed_74 rfl rfl ?_
                  refine ev_getR (b := 74) dX7_feed_75 fl_X7_34 (ly_k hI.ly 65 rfl) (ly_r hI.ly 37 rfl) ?_
                  refine ev_aload_n dX7_feed_78 rfl rfl ?_
                  refine ev_getI (v := nI (s_tp A)) dX7_feed_79 fl_X7_79 (ly_k hI.ly 65 rfl) ((hI.rd 65 11 rfl).trans (wf_tp hA)) ?_
                  refine ev_iload dX7_feed_82 rfl ?_
                  refine ev_if_ne (tgt := 91) dX7_feed_84 (by decide) (fun c => absurd (by decide) c) (fun _ => ?_)
                  refine ev_iload_n dX7_feed_87 rfl rfl ?_
                  refine ev_goto (tgt := 125) dX7_feed_88 (by decide) ?_
                  refine ev_iast dX7_feed_125 (ly_k hI.ly 74 rfl) (am_ixn (by omega) (by decide)) ?_
                  refine ev_aload_n dX7_feed_126 rfl rfl ?_
                  refine ev_dup dX7_feed_127 rfl ?_
                  refine ev_getI (v := nI (s_tp A)) dX7_feed_128 fl_X7_79 (ly_k (iv_M.up hI).ly 65 rfl) (am_ru (by omega) ((hI.rd 65 11 rfl).trans (wf_tp hA))) ?_
                  refine ev_iconst (v := 1) dX7_feed_131 (by decide) ?_
                  refine ev_iadd (v := nI (s_tp A + 1)) dX7_feed_132 (nI_1 _) ?_
                  refine ev_putI dX7_feed_133 fl_X7_79 rfl rfl (ly_k (iv_M.up hI).ly 65 rfl) ?_
                  refine ev_iinc (lv' := [(0, .ref 65), (1, .int (nI 1)), (2, .int (nI j2)), (3, .int (nI j3)), (4, .int (nI j4)), (5, .int (nI j5)), (6, .int (nI j6)), (7, .int 1)]) (v := 1) dX7_feed_136 rfl (by decide) (by decide) rfl ?_
                  refine ev_goto (tgt := 68) dX7_feed_139 (by decide) ?_
                  refine ev_iload dX7_feed_68 rfl ?_
                  refine ev_iload_n dX7_feed_70 rfl rfl ?_
                  refine ev_icmp_ge (tgt := 142) dX7_feed_71 (by decide) (fun _ => ?_) (fun c => absurd (by decide) c)
                  refine ev_aload_n dX7_feed_142 rfl rfl ?_
                  refine ev_getI (v := nI (s_tp A + 1)) dX7_feed_143 fl_X7_79 (ly_k (iv_M.up (iv_M.up hI)).ly 65 rfl) am_rs ?_
                  refine ev_reti dX7_feed_146 rfl (Nat.zero_le _) (Nat.zero_le _) ?_
                  exact am_qPi (by unfold sp_feed; rw [if_pos (by simp [h1.1, h1.2, am_inN h2 (by omega), am_inN h3 (by omega), am_inN h4 (by omega), am_inN h5 (by omega), am_inN h6 (by omega)]), sN_n (show 1 < 2 ^ 31 by decide), if_neg (by omega)]; rfl) (iv_M.up (iv_M.up hI)) (fr_M.wr (by decide) (fr_M.wr (by decide) fr_M.rf))
                · skip
                  refine ev_iconst (v := 0) dX7_feed_65 (by decide) ?_
                  refine ev_istore (lv' := [(0, .ref 65), (1, .int (nI 2)), (2, .int (nI j2)), (3, .int (nI j3)), (4, .int (nI j4)), (5, .int (nI j5)), (6, .int (nI j6)), (7, .int 0)]) dX7_feed_66 (by decide) rfl ?_
                  refine ev_iload dX7_feed_68 rfl ?_
                  refine ev_iload_n dX7_feed_70 rfl rfl ?_
                  refine ev_icmp_ge (tgt := 142) dX7_feed_71 (by decide) (fun c => absurd c (by decide)) (fun _ => ?_)
                  refine ev_aload_n dX7_feed_74 rfl rfl ?_
                  refine ev_getR (b := 74) dX7_feed_75 fl_X7_34 (ly_k hI.ly 65 rfl) (ly_r hI.ly 37 rfl) ?_
                  refine ev_aload_n dX7_feed_78 rfl rfl ?_
                  refine ev_getI (v := nI (s_tp A)) dX7_feed_79 fl_X7_79 (ly_k hI.ly 65 rfl) ((hI.rd 65 11 rfl).trans (wf_tp hA)) ?_
                  refine ev_iload dX7_feed_82 rfl ?_
                  refine ev_if_ne (tgt := 91) dX7_feed_84 (by decide) (fun c => absurd (by decide) c) (fun _ => ?_)
                  refine ev_iload_n dX7_feed_87 rfl rfl ?_
                  refine ev_goto (tgt := 125) dX7_feed_88 (by decide) ?_
                  refine ev_iast dX7_feed_125 (ly_k hI.ly 74 rfl) (am_ixn (by omega) (by decide)) ?_
                  refine ev_aload_n dX7_feed_126 rfl rfl ?_
                  refine ev_dup dX7_feed_127 rfl ?_
                  refine ev_getI (v := nI (s_tp A)) dX7_feed_128 fl_X7_79 (ly_k (iv_M.up hI).ly 65 rfl) (am_ru (by omega) ((hI.rd 65 11 rfl).trans (wf_tp hA))) ?_
                  refine ev_iconst (v := 1) dX7_feed_131 (by decide) ?_
                  refine ev_iadd (v := nI (s_tp A + 1)) dX7_feed_132 (nI_1 _) ?_
                  refine ev_putI dX7_feed_133 fl_X7_79 rfl rfl (ly_k (iv_M.up hI).ly 65 rfl) ?_
                  refine ev_iinc (lv' := [(0, .ref 65), (1, .int (nI 2)), (2, .int (nI j2)), (3, .int (nI j3)), (4, .int (nI j4)), (5, .int (nI j5)), (6, .int (nI j6)), (7, .int 1)]) (v := 1) dX7_feed_136 rfl (by decide) (by decide) rfl ?_
                  refine ev_goto (tgt := 68) dX7_feed_139 (by decide) ?_
                  refine ev_iload dX7_feed_68 rfl ?_
                  refine ev_iload_n dX7_feed_70 rfl rfl ?_
                  refine ev_icmp_ge (tgt := 142) dX7_feed_71 (by decide) (fun c => absurd c (by decide)) (fun _ => ?_)
                  refine ev_aload_n dX7_feed_74 rfl rfl ?_
                  refine ev_getR (b := 74) dX7_feed_75 fl_X7_34 (ly_k (iv_M.up (iv_M.up hI)).ly 65 rfl) (ly_r (iv_M.up (iv_M.up hI)).ly 37 rfl) ?_
                  refine ev_aload_n dX7_feed_78 rfl rfl ?_
                  refine ev_getI (v := nI (s_tp A + 1)) dX7_feed_79 fl_X7_79 (ly_k (iv_M.up (iv_M.up hI)).ly 65 rfl) am_rs ?_
                  refine ev_iload dX7_feed_82 rfl ?_
                  refine ev_if_ne (tgt := 91) dX7_feed_84 (by decide) (fun _ => ?_) (fun c => absurd c (by decide))
                  refine ev_iload dX7_feed_91 rfl ?_
                  refine ev_iconst (v := 1) dX7_feed_93 (by decide) ?_
                  refine ev_icmp_ne (tgt := 101) dX7_feed_94 (by decide) (fun c => absurd (by decide) c) (fun _ => ?_)
                  refine ev_iload_n dX7_feed_97 rfl rfl ?_
                  refine ev_goto (tgt := 125) dX7_feed_98 (by decide) ?_
                  refine ev_iast dX7_feed_125 (ly_k (iv_M.up (iv_M.up hI)).ly 74 rfl) (am_ixn (by omega) (by decide)) ?_
                  refine ev_aload_n dX7_feed_126 rfl rfl ?_
                  refine ev_dup dX7_feed_127 rfl ?_
                  refine ev_getI (v := nI (s_tp A + 1)) dX7_feed_128 fl_X7_79 (ly_k (iv_M.up (iv_M.up (iv_M.up hI))).ly 65 rfl) (am_ru (by omega) am_rs) ?_
                  refine ev_iconst (v := 1) dX7_feed_131 (by decide) ?_
                  refine ev_iadd (v := nI (s_tp A + 1 + 1)) dX7_feed_132 (nI_1 _) ?_
                  refine ev_putI dX7_feed_133 fl_X7_79 rfl rfl (ly_k (iv_M.up (iv_M.up (iv_M.up hI))).ly 65 rfl) ?_
                  refine ev_iinc (lv' := [(0, .ref 65), (1, .int (nI 2)), (2, .int (nI j2)), (3, .int (nI j3)), (4, .int (nI j4)), (5, .int (nI j5)), (6, .int (nI j6)), (7, .int 2)]) (v := 2) dX7_feed_136 rfl (by decide) (by decide) rfl ?_
                  refine ev_goto (tgt := 68) dX7_feed_139 (by decide) ?_
                  refine ev_iload dX7_feed_68 rfl ?_
                  refine ev_iload_n dX7_feed_70 rfl rfl ?_
                  refine ev_icmp_ge (tgt := 142) dX7_feed_71 (by decide) (fun _ => ?_) (fun c => absurd (by decide) c)
                  refine ev_aload_n dX7_feed_142 rfl rfl ?_
                  refine ev_getI (v := nI (s_tp A + 1 + 1)) dX7_feed_143 fl_X7_79 (ly_k (iv_M.up (iv_M.up (iv_M.up (iv_M.up hI)))).ly 65 rfl) am_rs ?_
                  refine ev_reti dX7_feed_146 rfl (Nat.zero_le _) (Nat.zero_le _) ?_
                  exact am_qPi (by unfold sp_feed; rw [if_pos (by simp [h1.1, h1.2, am_inN h2 (by omega), am_inN h3 (by omega), am_inN h4 (by omega), am_inN h5 (by omega), am_inN h6 (by omega)]), sN_n (show 2 < 2 ^ 31 by decide), if_neg (by omega)]; rfl) (iv_M.up (iv_M.up (iv_M.up (iv_M.up hI)))) (fr_M.wr (by decide) (fr_M.wr (by decide) (fr_M.wr (by decide) (fr_M.wr (by decide) fr_M.rf))))
                · skip
                  refine ev_iconst (v := 0) dX7_feed_65 (by decide) ?_
                  refine ev_istore (lv' := [(0, .ref 65), (1, .int (nI 3)), (2, .int (nI j2)), (3, .int (nI j3)), (4, .int (nI j4)), (5, .int (nI j5)), (6, .int (nI j6)), (7, .int 0)]) dX7_feed_66 (by decide) rfl ?_
                  refine ev_iload dX7_feed_68 rfl ?_
                  refine ev_iload_n dX7_feed_70 rfl rfl ?_
                  refine ev_icmp_ge (tgt := 142) dX7_feed_71 (by decide) (fun c => absurd c (by decide)) (fun _ => ?_)
                  refine ev_aload_n dX7_feed_74 rfl rfl ?_
                  refine ev_getR (b := 74) dX7_feed_75 fl_X7_34 (ly_k hI.ly 65 rfl) (ly_r hI.ly 37 rfl) ?_
                  refine ev_aload_n dX7_feed_78 rfl rfl ?_
                  refine ev_getI (v := nI (s_tp A)) dX7_feed_79 fl_X7_79 (ly_k hI.ly 65 rfl) ((hI.rd 65 11 rfl).trans (wf_tp hA)) ?_
                  refine ev_iload dX7_feed_82 rfl ?_
                  refine ev_if_ne (tgt := 91) dX7_feed_84 (by decide) (fun c => absurd (by decide) c) (fun _ => ?_)
                  refine ev_iload_n dX7_feed_87 rfl rfl ?_
                  refine ev_goto (tgt := 125) dX7_feed_88 (by decide) ?_
                  refine ev_iast dX7_feed_125 (ly_k hI.ly 74 rfl) (am_ixn (by omega) (by decide)) ?_
                  refine ev_aload_n dX7_feed_126 rfl rfl ?_
                  refine ev_dup dX7_feed_127 rfl ?_
                  refine ev_getI (v := nI (s_tp A)) dX7_feed_128 fl_X7_79 (ly_k (iv_M.up hI).ly 65 rfl) (am_ru (by omega) ((hI.rd 65 11 rfl).trans (wf_tp hA))) ?_
                  refine ev_iconst (v := 1) dX7_feed_131 (by decide) ?_
                  refine ev_iadd (v := nI (s_tp A + 1)) dX7_feed_132 (nI_1 _) ?_
                  refine ev_putI dX7_feed_133 fl_X7_79 rfl rfl (ly_k (iv_M.up hI).ly 65 rfl) ?_
                  refine ev_iinc (lv' := [(0, .ref 65), (1, .int (nI 3)), (2, .int (nI j2)), (3, .int (nI j3)), (4, .int (nI j4)), (5, .int (nI j5)), (6, .int (nI j6)), (7, .int 1)]) (v := 1) dX7_feed_136 rfl (by decide) (by decide) rfl ?_
                  refine ev_goto (tgt := 68) dX7_feed_139 (by decide) ?_
                  refine ev_iload dX7_feed_68 rfl ?_
                  refine ev_iload_n dX7_feed_70 rfl rfl ?_
                  refine ev_icmp_ge (tgt := 142) dX7_feed_71 (by decide) (fun c => absurd c (by decide)) (fun _ => ?_)
                  refine ev_aload_n dX7_feed_74 rfl rfl ?_
                  refine ev_getR (b := 74) dX7_feed_75 fl_X7_34 (ly_k (iv_M.up (iv_M.up hI)).ly 65 rfl) (ly_r (iv_M.up (iv_M.up hI)).ly 37 rfl) ?_
                  refine ev_aload_n dX7_feed_78 rfl rfl ?_
                  refine ev_getI (v := nI (s_tp A + 1)) dX7_feed_79 fl_X7_79 (ly_k (iv_M.up (iv_M.up hI)).ly 65 rfl) am_rs ?_
                  refine ev_iload dX7_feed_82 rfl ?_
                  refine ev_if_ne (tgt := 91) dX7_feed_84 (by decide) (fun _ => ?_) (fun c => absurd c (by decide))
                  refine ev_iload dX7_feed_91 rfl ?_
                  refine ev_iconst (v := 1) dX7_feed_93 (by decide) ?_
                  refine ev_icmp_ne (tgt := 101) dX7_feed_94 (by decide) (fun c => absurd (by decide) c) (fun _ => ?_)
                  refine ev_iload_n dX7_feed_97 rfl rfl ?_
                  refine ev_goto (tgt := 125) dX7_feed_98 (by decide) ?_
                  refine ev_iast dX7_feed_125 (ly_k (iv_M.up (iv_M.up hI)).ly 74 rfl) (am_ixn (by omega) (by decide)) ?_
                  refine ev_aload_n dX7_feed_126 rfl rfl ?_
                  refine ev_dup dX7_feed_127 rfl ?_
                  refine ev_getI (v := nI (s_tp A + 1)) dX7_feed_128 fl_X7_79 (ly_k (iv_M.up (iv_M.up (iv_M.up hI))).ly 65 rfl) (am_ru (by omega) am_rs) ?_
                  refine ev_iconst (v := 1) dX7_feed_131 (by decide) ?_
                  refine ev_iadd (v := nI (s_tp A + 1 + 1)) dX7_feed_132 (nI_1 _) ?_
                  refine ev_putI dX7_feed_133 fl_X7_79 rfl rfl (ly_k (iv_M.up (iv_M.up (iv_M.up hI))).ly 65 rfl) ?_
                  refine ev_iinc (lv' := [(0, .ref 65), (1, .int (nI 3)), (2, .int (nI j2)), (3, .int (nI j3)), (4, .int (nI j4)), (5, .int (nI j5)), (6, .int (nI j6)), (7, .int 2)]) (v := 2) dX7_feed_136 rfl (by decide) (by decide) rfl ?_
                  refine ev_goto (tgt := 68) dX7_feed_139 (by decide) ?_
                  refine ev_iload dX7_feed_68 rfl ?_
                  refine ev_iload_n dX7_feed_70 rfl rfl ?_
                  refine ev_icmp_ge (tgt := 142) dX7_feed_71 (by decide) (fun c => absurd c (by decide)) (fun _ => ?_)
                  refine ev_aload_n dX7_feed_74 rfl rfl ?_
                  refine ev_getR (b := 74) dX7_feed_75 fl_X7_34 (ly_k (iv_M.up (iv_M.up (iv_M.up (iv_M.up hI)))).ly 65 rfl) (ly_r (iv_M.up (iv_M.up (iv_M.up (iv_M.up hI)))).ly 37 rfl) ?_
                  refine ev_aload_n dX7_feed_78 rfl rfl ?_
                  refine ev_getI (v := nI (s_tp A + 1 + 1)) dX7_feed_79 fl_X7_79 (ly_k (iv_M.up (iv_M.up (iv_M.up (iv_M.up hI)))).ly 65 rfl) am_rs ?_
                  refine ev_iload dX7_feed_82 rfl ?_
                  refine ev_if_ne (tgt := 91) dX7_feed_84 (by decide) (fun _ => ?_) (fun c => absurd c (by decide))
                  refine ev_iload dX7_feed_91 rfl ?_
                  refine ev_iconst (v := 1) dX7_feed_93 (by decide) ?_
                  refine ev_icmp_ne (tgt := 101) dX7_feed_94 (by decide) (fun _ => ?_) (fun c => absurd c (by decide))
                  refine ev_iload dX7_feed_101 rfl ?_
                  refine ev_iconst (v := 2) dX7_feed_103 (by decide) ?_
                  refine ev_icmp_ne (tgt := 112) dX7_feed_104 (by decide) (fun c => absurd (by decide) c) (fun _ => ?_)
                  refine ev_iload dX7_feed_107 rfl ?_
                  refine ev_goto (tgt := 125) dX7_feed_109 (by decide) ?_
                  refine ev_iast dX7_feed_125 (ly_k (iv_M.up (iv_M.up (iv_M.up (iv_M.up hI)))).ly 74 rfl) (am_ixn (by omega) (by decide)) ?_
                  refine ev_aload_n dX7_feed_126 rfl rfl ?_
                  refine ev_dup dX7_feed_127 rfl ?_
                  refine ev_getI (v := nI (s_tp A + 1 + 1)) dX7_feed_128 fl_X7_79 (ly_k (iv_M.up (iv_M.up (iv_M.up (iv_M.up (iv_M.up hI))))).ly 65 rfl) (am_ru (by omega) am_rs) ?_
                  refine ev_iconst (v := 1) dX7_feed_131 (by decide) ?_
                  refine ev_iadd (v := nI (s_tp A + 1 + 1 + 1)) dX7_feed_132 (nI_1 _) ?_
                  refine ev_putI dX7_feed_133 fl_X7_79 rfl rfl (ly_k (iv_M.up (iv_M.up (iv_M.up (iv_M.up (iv_M.up hI))))).ly 65 rfl) ?_
                  refine ev_iinc (lv' := [(0, .ref 65), (1, .int (nI 3)), (2, .int (nI j2)), (3, .int (nI j3)), (4, .int (nI j4)), (5, .int (nI j5)), (6, .int (nI j6)), (7, .int 3)]) (v := 3) dX7_feed_136 rfl (by decide) (by decide) rfl ?_
                  refine ev_goto (tgt := 68) dX7_feed_139 (by decide) ?_
                  refine ev_iload dX7_feed_68 rfl ?_
                  refine ev_iload_n dX7_feed_70 rfl rfl ?_
                  refine ev_icmp_ge (tgt := 142) dX7_feed_71 (by decide) (fun _ => ?_) (fun c => absurd (by decide) c)
                  refine ev_aload_n dX7_feed_142 rfl rfl ?_
                  refine ev_getI (v := nI (s_tp A + 1 + 1 + 1)) dX7_feed_143 fl_X7_79 (ly_k (iv_M.up (iv_M.up (iv_M.up (iv_M.up (iv_M.up (iv_M.up hI)))))).ly 65 rfl) am_rs ?_
                  refine ev_reti dX7_feed_146 rfl (Nat.zero_le _) (Nat.zero_le _) ?_
                  exact am_qPi (by unfold sp_feed; rw [if_pos (by simp [h1.1, h1.2, am_inN h2 (by omega), am_inN h3 (by omega), am_inN h4 (by omega), am_inN h5 (by omega), am_inN h6 (by omega)]), sN_n (show 3 < 2 ^ 31 by decide), if_neg (by omega)]; rfl) (iv_M.up (iv_M.up (iv_M.up (iv_M.up (iv_M.up (iv_M.up hI)))))) (fr_M.wr (by decide) (fr_M.wr (by decide) (fr_M.wr (by decide) (fr_M.wr (by decide) (fr_M.wr (by decide) (fr_M.wr (by decide) fr_M.rf))))))
                · skip
                  refine ev_iconst (v := 0) dX7_feed_65 (by decide) ?_
                  refine ev_istore (lv' := [(0, .ref 65), (1, .int (nI 4)), (2, .int (nI j2)), (3, .int (nI j3)), (4, .int (nI j4)), (5, .int (nI j5)), (6, .int (nI j6)), (7, .int 0)]) dX7_feed_66 (by decide) rfl ?_
                  refine ev_iload dX7_feed_68 rfl ?_
                  refine ev_iload_n dX7_feed_70 rfl rfl ?_
                  refine ev_icmp_ge (tgt := 142) dX7_feed_71 (by decide) (fun c => absurd c (by decide)) (fun _ => ?_)
                  refine ev_aload_n dX7_feed_74 rfl rfl ?_
                  refine ev_getR (b := 74) dX7_feed_75 fl_X7_34 (ly_k hI.ly 65 rfl) (ly_r hI.ly 37 rfl) ?_
                  refine ev_aload_n dX7_feed_78 rfl rfl ?_
                  refine ev_getI (v := nI (s_tp A)) dX7_feed_79 fl_X7_79 (ly_k hI.ly 65 rfl) ((hI.rd 65 11 rfl).trans (wf_tp hA)) ?_
                  refine ev_iload dX7_feed_82 rfl ?_
                  refine ev_if_ne (tgt := 91) dX7_feed_84 (by decide) (fun c => absurd (by decide) c) (fun _ => ?_)
                  refine ev_iload_n dX7_feed_87 rfl rfl ?_
                  refine ev_goto (tgt := 125) dX7_feed_88 (by decide) ?_
                  refine ev_iast dX7_feed_125 (ly_k hI.ly 74 rfl) (am_ixn (by omega) (by decide)) ?_
                  refine ev_aload_n dX7_feed_126 rfl rfl ?_
                  refine ev_dup dX7_feed_127 rfl ?_
                  refine ev_getI (v := nI (s_tp A)) dX7_feed_128 fl_X7_79 (ly_k (iv_M.up hI).ly 65 rfl) (am_ru (by omega) ((hI.rd 65 11 rfl).trans (wf_tp hA))) ?_
                  refine ev_iconst (v := 1) dX7_feed_131 (by decide) ?_
                  refine ev_iadd (v := nI (s_tp A + 1)) dX7_feed_132 (nI_1 _) ?_
                  refine ev_putI dX7_feed_133 fl_X7_79 rfl rfl (ly_k (iv_M.up hI).ly 65 rfl) ?_
                  refine ev_iinc (lv' := [(0, .ref 65), (1, .int (nI 4)), (2, .int (nI j2)), (3, .int (nI j3)), (4, .int (nI j4)), (5, .int (nI j5)), (6, .int (nI j6)), (7, .int 1)]) (v := 1) dX7_feed_136 rfl (by decide) (by decide) rfl ?_
                  refine ev_goto (tgt := 68) dX7_feed_139 (by decide) ?_
                  refine ev_iload dX7_feed_68 rfl ?_
                  refine ev_iload_n dX7_feed_70 rfl rfl ?_
                  refine ev_icmp_ge (tgt := 142) dX7_feed_71 (by decide) (fun c => absurd c (by decide)) (fun _ => ?_)
                  refine ev_aload_n dX7_feed_74 rfl rfl ?_
                  refine ev_getR (b := 74) dX7_feed_75 fl_X7_34 (ly_k (iv_M.up (iv_M.up hI)).ly 65 rfl) (ly_r (iv_M.up (iv_M.up hI)).ly 37 rfl) ?_
                  refine ev_aload_n dX7_feed_78 rfl rfl ?_
                  refine ev_getI (v := nI (s_tp A + 1)) dX7_feed_79 fl_X7_79 (ly_k (iv_M.up (iv_M.up hI)).ly 65 rfl) am_rs ?_
                  refine ev_iload dX7_feed_82 rfl ?_
                  refine ev_if_ne (tgt := 91) dX7_feed_84 (by decide) (fun _ => ?_) (fun c => absurd c (by decide))
                  refine ev_iload dX7_feed_91 rfl ?_
                  refine ev_iconst (v := 1) dX7_feed_93 (by decide) ?_
                  refine ev_icmp_ne (tgt := 101) dX7_feed_94 (by decide) (fun c => absurd (by decide) c) (fun _ => ?_)
                  refine ev_iload_n dX7_feed_97 rfl rfl ?_
                  refine ev_goto (tgt := 125) dX7_feed_98 (by decide) ?_
                  refine ev_iast dX7_feed_125 (ly_k (iv_M.up (iv_M.up hI)).ly 74 rfl) (am_ixn (by omega) (by decide)) ?_
                  refine ev_aload_n dX7_feed_126 rfl rfl ?_
                  refine ev_dup dX7_feed_127 rfl ?_
                  refine ev_getI (v := nI (s_tp A + 1)) dX7_feed_128 fl_X7_79 (ly_k (iv_M.up (iv_M.up (iv_M.up hI))).ly 65 rfl) (am_ru (by omega) am_rs) ?_
                  refine ev_iconst (v := 1) dX7_feed_131 (by decide) ?_
                  refine ev_iadd (v := nI (s_tp A + 1 + 1)) dX7_feed_132 (nI_1 _) ?_
                  refine ev_putI dX7_feed_133 fl_X7_79 rfl rfl (ly_k (iv_M.up (iv_M.up (iv_M.up hI))).ly 65 rfl) ?_
                  refine ev_iinc (lv' := [(0, .ref 65), (1, .int (nI 4)), (2, .int (nI j2)), (3, .int (nI j3)), (4, .int (nI j4)), (5, .int (nI j5)), (6, .int (nI j6)), (7, .int 2)]) (v := 2) dX7_feed_136 rfl (by decide) (by decide) rfl ?_
                  refine ev_goto (tgt := 68) dX7_feed_139 (by decide) ?_
                  refine ev_iload dX7_feed_68 rfl ?_
                  refine ev_iload_n dX7_feed_70 rfl rfl ?_
                  refine ev_icmp_ge (tgt := 142) dX7_feed_71 (by decide) (fun c => absurd c (by decide)) (fun _ => ?_)
                  refine ev_aload_n dX7_feed_74 rfl rfl ?_
                  refine ev_getR (b := 74) dX7_feed_75 fl_X7_34 (ly_k (iv_M.up (iv_M.up (iv_M.up (iv_M.up hI)))).ly 65 rfl) (ly_r (iv_M.up (iv_M.up (iv_M.up (iv_M.up hI)))).ly 37 rfl) ?_
                  refine ev_aload_n dX7_feed_78 rfl rfl ?_
                  refine ev_getI (v := nI (s_tp A + 1 + 1)) dX7_feed_79 fl_X7_79 (ly_k (iv_M.up (iv_M.up (iv_M.up (iv_M.up hI)))).ly 65 rfl) am_rs ?_
                  refine ev_iload dX7_feed_82 rfl ?_
                  refine ev_if_ne (tgt := 91) dX7_feed_84 (by decide) (fun _ => ?_) (fun c => absurd c (by decide))
                  refine ev_iload dX7_feed_91 rfl ?_
                  refine ev_iconst (v := 1) dX7_feed_93 (by decide) ?_
                  refine ev_icmp_ne (tgt := 101) dX7_feed_94 (by decide) (fun _ => ?_) (fun c => absurd c (by decide))
                  refine ev_iload dX7_feed_101 rfl ?_
                  refine ev_iconst (v := 2) dX7_feed_103 (by decide) ?_
                  refine ev_icmp_ne (tgt := 112) dX7_feed_104 (by decide) (fun c => absurd (by decide) c) (fun _ => ?_)
                  refine ev_iload dX7_feed_107 rfl ?_
                  refine ev_goto (tgt := 125) dX7_feed_109 (by decide) ?_
                  refine ev_iast dX7_feed_125 (ly_k (iv_M.up (iv_M.up (iv_M.up (iv_M.up hI)))).ly 74 rfl) (am_ixn (by omega) (by decide)) ?_
                  refine ev_aload_n dX7_feed_126 rfl rfl ?_
                  refine ev_dup dX7_feed_127 rfl ?_
                  refine ev_getI (v := nI (s_tp A + 1 + 1)) dX7_feed_128 fl_X7_79 (ly_k (iv_M.up (iv_M.up (iv_M.up (iv_M.up (iv_M.up hI))))).ly 65 rfl) (am_ru (by omega) am_rs) ?_
                  refine ev_iconst (v := 1) dX7_feed_131 (by decide) ?_
                  refine ev_iadd (v := nI (s_tp A + 1 + 1 + 1)) dX7_feed_132 (nI_1 _) ?_
                  refine ev_putI dX7_feed_133 fl_X7_79 rfl rfl (ly_k (iv_M.up (iv_M.up (iv_M.up (iv_M.up (iv_M.up hI))))).ly 65 rfl) ?_
                  refine ev_iinc (lv' := [(0, .ref 65), (1, .int (nI 4)), (2, .int (nI j2)), (3, .int (nI j3)), (4, .int (nI j4)), (5, .int (nI j5)), (6, .int (nI j6)), (7, .int 3)]) (v := 3) dX7_feed_136 rfl (by decide) (by decide) rfl ?_
                  refine ev_goto (tgt := 68) dX7_feed_139 (by decide) ?_
                  refine ev_iload dX7_feed_68 rfl ?_
                  refine ev_iload_n dX7_feed_70 rfl rfl ?_
                  refine ev_icmp_ge (tgt := 142) dX7_feed_71 (by decide) (fun c => absurd c (by decide)) (fun _ => ?_)
                  refine ev_aload_n dX7_feed_74 rfl rfl ?_
                  refine ev_getR (b := 74) dX7_feed_75 fl_X7_34 (ly_k (iv_M.up (iv_M.up (iv_M.up (iv_M.up (iv_M.up (iv_M.up hI)))))).ly 65 rfl) (ly_r (iv_M.up (iv_M.up (iv_M.up (iv_M.up (iv_M.up (iv_M.up hI)))))).ly 37 rfl) ?_
                  refine ev_aload_n dX7_feed_78 rfl rfl ?_
                  refine ev_getI (v := nI (s_tp A + 1 + 1 + 1)) dX7_feed_79 fl_X7_79 (ly_k (iv_M.up (iv_M.up (iv_M.up (iv_M.up (iv_M.up (iv_M.up hI)))))).ly 65 rfl) am_rs ?_
                  refine ev_iload dX7_feed_82 rfl ?_
                  refine ev_if_ne (tgt := 91) dX7_feed_84 (by decide) (fun _ => ?_) (fun c => absurd c (by decide))
                  refine ev_iload dX7_feed_91 rfl ?_
                  refine ev_iconst (v := 1) dX7_feed_93 (by decide) ?_
                  refine ev_icmp_ne (tgt := 101) dX7_feed_94 (by decide) (fun _ => ?_) (fun c => absurd c (by decide))
                  refine ev_iload dX7_feed_101 rfl ?_
                  refine ev_iconst (v := 2) dX7_feed_103 (by decide) ?_
                  refine ev_icmp_ne (tgt := 112) dX7_feed_104 (by decide) (fun _ => ?_) (fun c => absurd c (by decide))
                  refine ev_iload dX7_feed_112 rfl ?_
                  refine ev_iconst (v := 3) dX7_feed_114 (by decide) ?_
                  refine ev_icmp_ne (tgt := 123) dX7_feed_115 (by decide) (fun c => absurd (by decide) c) (fun _ => ?_)
                  refine ev_iload dX7_feed_118 rfl ?_
                  refine ev_goto (tgt := 125) dX7_feed_120 (by decide) ?_
                  refine ev_iast dX7_feed_125 (ly_k (iv_M.up (iv_M.up (iv_M.up (iv_M.up (iv_M.up (iv_M.up hI)))))).ly 74 rfl) (am_ixn (by omega) (by decide)) ?_
                  refine ev_aload_n dX7_feed_126 rfl rfl ?_
                  refine ev_dup dX7_feed_127 rfl ?_
                  refine ev_getI (v := nI (s_tp A + 1 + 1 + 1)) dX7_feed_128 fl_X7_79 (ly_k (iv_M.up (iv_M.up (iv_M.up (iv_M.up (iv_M.up (iv_M.up (iv_M.up hI))))))).ly 65 rfl) (am_ru (by omega) am_rs) ?_
                  refine ev_iconst (v := 1) dX7_feed_131 (by decide) ?_
                  refine ev_iadd (v := nI (s_tp A + 1 + 1 + 1 + 1)) dX7_feed_132 (nI_1 _) ?_
                  refine ev_putI dX7_feed_133 fl_X7_79 rfl rfl (ly_k (iv_M.up (iv_M.up (iv_M.up (iv_M.up (iv_M.up (iv_M.up (iv_M.up hI))))))).ly 65 rfl) ?_
                  refine ev_iinc (lv' := [(0, .ref 65), (1, .int (nI 4)), (2, .int (nI j2)), (3, .int (nI j3)), (4, .int (nI j4)), (5, .int (nI j5)), (6, .int (nI j6)), (7, .int 4)]) (v := 4) dX7_feed_136 rfl (by decide) (by decide) rfl ?_
                  refine ev_goto (tgt := 68) dX7_feed_139 (by decide) ?_
                  refine ev_iload dX7_feed_68 rfl ?_
                  refine ev_iload_n dX7_feed_70 rfl rfl ?_
                  refine ev_icmp_ge (tgt := 142) dX7_feed_71 (by decide) (fun _ => ?_) (fun c => absurd (by decide) c)
                  refine ev_aload_n dX7_feed_142 rfl rfl ?_
                  refine ev_getI (v := nI (s_tp A + 1 + 1 + 1 + 1)) dX7_feed_143 fl_X7_79 (ly_k (iv_M.up (iv_M.up (iv_M.up (iv_M.up (iv_M.up (iv_M.up (iv_M.up (iv_M.up hI)))))))).ly 65 rfl) am_rs ?_
                  refine ev_reti dX7_feed_146 rfl (Nat.zero_le _) (Nat.zero_le _) ?_
                  exact am_qPi (by unfold sp_feed; rw [if_pos (by simp [h1.1, h1.2, am_inN h2 (by omega), am_inN h3 (by omega), am_inN h4 (by omega), am_inN h5 (by omega), am_inN h6 (by omega)]), sN_n (show 4 < 2 ^ 31 by decide), if_neg (by omega)]; rfl) (iv_M.up (iv_M.up (iv_M.up (iv_M.up (iv_M.up (iv_M.up (iv_M.up (iv_M.up hI)))))))) (fr_M.wr (by decide) (fr_M.wr (by decide) (fr_M.wr (by decide) (fr_M.wr (by decide) (fr_M.wr (by decide) (fr_M.wr (by decide) (fr_M.wr (by decide) (fr_M.wr (by decide) fr_M.rf))))))))
                · skip
                  refine ev_iconst (v := 0) dX7_feed_65 (by decide) ?_
                  refine ev_istore (lv' := [(0, .ref 65), (1, .int (nI 5)), (2, .int (nI j2)), (3, .int (nI j3)), (4, .int (nI j4)), (5, .int (nI j5)), (6, .int (nI j6)), (7, .int 0)]) dX7_feed_66 (by decide) rfl ?_
                  refine ev_iload dX7_feed_68 rfl ?_
                  refine ev_iload_n dX7_feed_70 rfl rfl ?_
                  refine ev_icmp_ge (tgt := 142) dX7_feed_71 (by decide) (fun c => absurd c (by decide)) (fun _ => ?_)
                  refine ev_aload_n dX7_feed_74 rfl rfl ?_
                  refine ev_getR (b := 74) dX7_feed_75 fl_X7_34 (ly_k hI.ly 65 rfl) (ly_r hI.ly 37 rfl) ?_
                  refine ev_aload_n dX7_feed_78 rfl rfl ?_
                  refine ev_getI (v := nI (s_tp A)) dX7_feed_79 fl_X7_79 (ly_k hI.ly 65 rfl) ((hI.rd 65 11 rfl).trans (wf_tp hA)) ?_
                  refine ev_iload dX7_feed_82 rfl ?_
                  refine ev_if_ne (tgt := 91) dX7_feed_84 (by decide) (fun c => absurd (by decide) c) (fun _ => ?_)
                  refine ev_iload_n dX7_feed_87 rfl rfl ?_
                  refine ev_goto (tgt := 125) dX7_feed_88 (by decide) ?_
                  refine ev_iast dX7_feed_125 (ly_k hI.ly 74 rfl) (am_ixn (by omega) (by decide)) ?_
                  refine ev_aload_n dX7_feed_126 rfl rfl ?_
                  refine ev_dup dX7_feed_127 rfl ?_
                  refine ev_getI (v := nI (s_tp A)) dX7_feed_128 fl_X7_79 (ly_k (iv_M.up hI).ly 65 rfl) (am_ru (by omega) ((hI.rd 65 11 rfl).trans (wf_tp hA))) ?_
                  refine ev_iconst (v := 1) dX7_feed_131 (by decide) ?_
                  refine ev_iadd (v := nI (s_tp A + 1)) dX7_feed_132 (nI_1 _) ?_
                  refine ev_putI dX7_feed_133 fl_X7_79 rfl rfl (ly_k (iv_M.up hI).ly 65 rfl) ?_
                  refine ev_iinc (lv' := [(0, .ref 65), (1, .int (nI 5)), (2, .int (nI j2)), (3, .int (nI j3)), (4, .int (nI j4)), (5, .int (nI j5)), (6, .int (nI j6)), (7, .int 1)]) (v := 1) dX7_feed_136 rfl (by decide) (by decide) rfl ?_
                  refine ev_goto (tgt := 68) dX7_feed_139 (by decide) ?_
                  refine ev_iload dX7_feed_68 rfl ?_
                  refine ev_iload_n dX7_feed_70 rfl rfl ?_
                  refine ev_icmp_ge (tgt := 142) dX7_feed_71 (by decide) (fun c => absurd c (by decide)) (fun _ => ?_)
                  refine ev_aload_n dX7_feed_74 rfl rfl ?_
                  refine ev_getR (b := 74) dX7_feed_75 fl_X7_34 (ly_k (iv_M.up (iv_M.up hI)).ly 65 rfl) (ly_r (iv_M.up (iv_M.up hI)).ly 37 rfl) ?_
                  refine ev_aload_n dX7_feed_78 rfl rfl ?_
                  refine ev_getI (v := nI (s_tp A + 1)) dX7_feed_79 fl_X7_79 (ly_k (iv_M.up (iv_M.up hI)).ly 65 rfl) am_rs ?_
                  refine ev_iload dX7_feed_82 rfl ?_
                  refine ev_if_ne (tgt := 91) dX7_feed_84 (by decide) (fun _ => ?_) (fun c => absurd c (by decide))
                  refine ev_iload dX7_feed_91 rfl ?_
                  refine ev_iconst (v := 1) dX7_feed_93 (by decide) ?_
                  refine ev_icmp_ne (tgt := 101) dX7_feed_94 (by decide) (fun c => absurd (by decide) c) (fun _ => ?_)
                  refine ev_iload_n dX7_feed_97 rfl rfl ?_
                  refine ev_goto (tgt := 125) dX7_feed_98 (by decide) ?_
                  refine ev_iast dX7_feed_125 (ly_k (iv_M.up (iv_M.up hI)).ly 74 rfl) (am_ixn (by omega) (by decide)) ?_
                  refine ev_aload_n dX7_feed_126 rfl rfl ?_
                  refine ev_dup dX7_feed_127 rfl ?_
                  refine ev_getI (v := nI (s_tp A + 1)) dX7_feed_128 fl_X7_79 (ly_k (iv_M.up (iv_M.up (iv_M.up hI))).ly 65 rfl) (am_ru (by omega) am_rs) ?_
                  refine ev_iconst (v := 1) dX7_feed_131 (by decide) ?_
                  refine ev_iadd (v := nI (s_tp A + 1 + 1)) dX7_feed_132 (nI_1 _) ?_
                  refine ev_putI dX7_feed_133 fl_X7_79 rfl rfl (ly_k (iv_M.up (iv_M.up (iv_M.up hI))).ly 65 rfl) ?_
                  refine ev_iinc (lv' := [(0, .ref 65), (1, .int (nI 5)), (2, .int (nI j2)), (3, .int (nI j3)), (4, .int (nI j4)), (5, .int (nI j5)), (6, .int (nI j6)), (7, .int 2)]) (v := 2) dX7_feed_136 rfl (by decide) (by decide) rfl ?_
                  refine ev_goto (tgt := 68) dX7_feed_139 (by decide) ?_
                  refine ev_iload dX7_feed_68 rfl ?_
                  refine ev_iload_n dX7_feed_70 rfl rfl ?_
                  refine ev_icmp_ge (tgt := 142) dX7_feed_71 (by decide) (fun c => absurd c (by decide)) (fun _ => ?_)
                  refine ev_aload_n dX7_feed_74 rfl rfl ?_
                  refine ev_getR (b := 74) dX7_feed_75 fl_X7_34 (ly_k (iv_M.up (iv_M.up (iv_M.up (iv_M.up hI)))).ly 65 rfl) (ly_r (iv_M.up (iv_M.up (iv_M.up (iv_M.up hI)))).ly 37 rfl) ?_
                  refine ev_aload_n dX7_feed_78 rfl rfl ?_
                  refine ev_getI (v := nI (s_tp A + 1 + 1)) dX7_feed_79 fl_X7_79 (ly_k (iv_M.up (iv_M.up (iv_M.up (iv_M.up hI)))).ly 65 rfl) am_rs ?_
                  refine ev_iload dX7_feed_82 rfl ?_
                  refine ev_if_ne (tgt := 91) dX7_feed_84 (by decide) (fun _ => ?_) (fun c => absurd c (by decide))
                  refine ev_iload dX7_feed_91 rfl ?_
                  refine ev_iconst (v := 1) dX7_feed_93 (by decide) ?_
                  refine ev_icmp_ne (tgt := 101) dX7_feed_94 (by decide) (fun _ => ?_) (fun c => absurd c (by decide))
                  refine ev_iload dX7_feed_101 rfl ?_
                  refine ev_iconst (v := 2) dX7_feed_103 (by decide) ?_
                  refine ev_icmp_ne (tgt := 112) dX7_feed_104 (by decide) (fun c => absurd (by decide) c) (fun _ => ?_)
                  refine ev_iload dX7_feed_107 rfl ?_
                  refine ev_goto (tgt := 125) dX7_feed_109 (by decide) ?_
                  refine ev_iast dX7_feed_125 (ly_k (iv_M.up (iv_M.up (iv_M.up (iv_M.up hI)))).ly 74 rfl) (am_ixn (by omega) (by decide)) ?_
                  refine ev_aload_n dX7_feed_126 rfl rfl ?_
                  refine ev_dup dX7_feed_127 rfl ?_
                  refine ev_getI (v := nI (s_tp A + 1 + 1)) dX7_feed_128 fl_X7_79 (ly_k (iv_M.up (iv_M.up (iv_M.up (iv_M.up (iv_M.up hI))))).ly 65 rfl) (am_ru (by omega) am_rs) ?_
                  refine ev_iconst (v := 1) dX7_feed_131 (by decide) ?_
                  refine ev_iadd (v := nI (s_tp A + 1 + 1 + 1)) dX7_feed_132 (nI_1 _) ?_
                  refine ev_putI dX7_feed_133 fl_X7_79 rfl rfl (ly_k (iv_M.up (iv_M.up (iv_M.up (iv_M.up (iv_M.up hI))))).ly 65 rfl) ?_
                  refine ev_iinc (lv' := [(0, .ref 65), (1, .int (nI 5)), (2, .int (nI j2)), (3, .int (nI j3)), (4, .int (nI j4)), (5, .int (nI j5)), (6, .int (nI j6)), (7, .int 3)]) (v := 3) dX7_feed_136 rfl (by decide) (by decide) rfl ?_
                  refine ev_goto (tgt := 68) dX7_feed_139 (by decide) ?_
                  refine ev_iload dX7_feed_68 rfl ?_
                  refine ev_iload_n dX7_feed_70 rfl rfl ?_
                  refine ev_icmp_ge (tgt := 142) dX7_feed_71 (by decide) (fun c => absurd c (by decide)) (fun _ => ?_)
                  refine ev_aload_n dX7_feed_74 rfl rfl ?_
                  refine ev_getR (b := 74) dX7_feed_75 fl_X7_34 (ly_k (iv_M.up (iv_M.up (iv_M.up (iv_M.up (iv_M.up (iv_M.up hI)))))).ly 65 rfl) (ly_r (iv_M.up (iv_M.up (iv_M.up (iv_M.up (iv_M.up (iv_M.up hI)))))).ly 37 rfl) ?_
                  refine ev_aload_n dX7_feed_78 rfl rfl ?_
                  refine ev_getI (v := nI (s_tp A + 1 + 1 + 1)) dX7_feed_79 fl_X7_79 (ly_k (iv_M.up (iv_M.up (iv_M.up (iv_M.up (iv_M.up (iv_M.up hI)))))).ly 65 rfl) am_rs ?_
                  refine ev_iload dX7_feed_82 rfl ?_
                  refine ev_if_ne (tgt := 91) dX7_feed_84 (by decide) (fun _ => ?_) (fun c => absurd c (by decide))
                  refine ev_iload dX7_feed_91 rfl ?_
                  refine ev_iconst (v := 1) dX7_feed_93 (by decide) ?_
                  refine ev_icmp_ne (tgt := 101) dX7_feed_94 (by decide) (fun _ => ?_) (fun c => absurd c (by decide))
                  refine ev_iload dX7_feed_101 rfl ?_
                  refine ev_iconst (v := 2) dX7_feed_103 (by decide) ?_
                  refine ev_icmp_ne (tgt := 112) dX7_feed_104 (by decide) (fun _ => ?_) (fun c => absurd c (by decide))
                  refine ev_iload dX7_feed_112 rfl ?_
                  refine ev_iconst (v := 3) dX7_feed_114 (by decide) ?_
                  refine ev_icmp_ne (tgt := 123) dX7_feed_115 (by decide) (fun c => absurd (by decide) c) (fun _ => ?_)
                  refine ev_iload dX7_feed_118 rfl ?_
                  refine ev_goto (tgt := 125) dX7_feed_120 (by decide) ?_
                  refine ev_iast dX7_feed_125 (ly_k (iv_M.up (iv_M.up (iv_M.up (iv_M.up (iv_M.up (iv_M.up hI)))))).ly 74 rfl) (am_ixn (by omega) (by decide)) ?_
                  refine ev_aload_n dX7_feed_126 rfl rfl ?_
                  refine ev_dup dX7_feed_127 rfl ?_
                  refine ev_getI (v := nI (s_tp A + 1 + 1 + 1)) dX7_feed_128 fl_X7_79 (ly_k (iv_M.up (iv_M.up (iv_M.up (iv_M.up (iv_M.up (iv_M.up (iv_M.up hI))))))).ly 65 rfl) (am_ru (by omega) am_rs) ?_
                  refine ev_iconst (v := 1) dX7_feed_131 (by decide) ?_
                  refine ev_iadd (v := nI (s_tp A + 1 + 1 + 1 + 1)) dX7_feed_132 (nI_1 _) ?_
                  refine ev_putI dX7_feed_133 fl_X7_79 rfl rfl (ly_k (iv_M.up (iv_M.up (iv_M.up (iv_M.up (iv_M.up (iv_M.up (iv_M.up hI))))))).ly 65 rfl) ?_
                  refine ev_iinc (lv' := [(0, .ref 65), (1, .int (nI 5)), (2, .int (nI j2)), (3, .int (nI j3)), (4, .int (nI j4)), (5, .int (nI j5)), (6, .int (nI j6)), (7, .int 4)]) (v := 4) dX7_feed_136 rfl (by decide) (by decide) rfl ?_
                  refine ev_goto (tgt := 68) dX7_feed_139 (by decide) ?_
                  refine ev_iload dX7_feed_68 rfl ?_
                  refine ev_iload_n dX7_feed_70 rfl rfl ?_
                  refine ev_icmp_ge (tgt := 142) dX7_feed_71 (by decide) (fun c => absurd c (by decide)) (fun _ => ?_)
                  refine ev_aload_n dX7_feed_74 rfl rfl ?_
                  refine ev_getR (b := 74) dX7_feed_75 fl_X7_34 (ly_k (iv_M.up (iv_M.up (iv_M.up (iv_M.up (iv_M.up (iv_M.up (iv_M.up (iv_M.up hI)))))))).ly 65 rfl) (ly_r (iv_M.up (iv_M.up (iv_M.up (iv_M.up (iv_M.up (iv_M.up (iv_M.up (iv_M.up hI)))))))).ly 37 rfl) ?_
                  refine ev_aload_n dX7_feed_78 rfl rfl ?_
                  refine ev_getI (v := nI (s_tp A + 1 + 1 + 1 + 1)) dX7_feed_79 fl_X7_79 (ly_k (iv_M.up (iv_M.up (iv_M.up (iv_M.up (iv_M.up (iv_M.up (iv_M.up (iv_M.up hI)))))))).ly 65 rfl) am_rs ?_
                  refine ev_iload dX7_feed_82 rfl ?_
                  refine ev_if_ne (tgt := 91) dX7_feed_84 (by decide) (fun _ => ?_) (fun c => absurd c (by decide))
                  refine ev_iload dX7_feed_91 rfl ?_
                  refine ev_iconst (v := 1) dX7_feed_93 (by decide) ?_
                  refine ev_icmp_ne (tgt := 101) dX7_feed_94 (by decide) (fun _ => ?_) (fun c => absurd c (by decide))
                  refine ev_iload dX7_feed_101 rfl ?_
                  refine ev_iconst (v := 2) dX7_feed_103 (by decide) ?_
                  refine ev_icmp_ne (tgt := 112) dX7_feed_104 (by decide) (fun _ => ?_) (fun c => absurd c (by decide))
                  refine ev_iload dX7_feed_112 rfl ?_
                  refine ev_iconst (v := 3) dX7_feed_114 (by decide) ?_
                  refine ev_icmp_ne (tgt := 123) dX7_feed_115 (by decide) (fun _ => ?_) (fun c => absurd c (by decide))
                  refine ev_iload dX7_feed_123 rfl ?_
                  refine ev_iast dX7_feed_125 (ly_k (iv_M.up (iv_M.up (iv_M.up (iv_M.up (iv_M.up (iv_M.up (iv_M.up (iv_M.up hI)))))))).ly 74 rfl) (am_ixn (by omega) (by decide)) ?_
                  refine ev_aload_n dX7_feed_126 rfl rfl ?_
                  refine ev_dup dX7_feed_127 rfl ?_
                  refine ev_getI (v := nI (s_tp A + 1 + 1 + 1 + 1)) dX7_feed_128 fl_X7_79 (ly_k (iv_M.up (iv_M.up (iv_M.up (iv_M.up (iv_M.up (iv_M.up (iv_M.up (iv_M.up (iv_M.up hI))))))))).ly 65 rfl) (am_ru (by omega) am_rs) ?_
                  refine ev_iconst (v := 1) dX7_feed_131 (by decide) ?_
                  refine ev_iadd (v := nI (s_tp A + 1 + 1 + 1 + 1 + 1)) dX7_feed_132 (nI_1 _) ?_
                  refine ev_putI dX7_feed_133 fl_X7_79 rfl rfl (ly_k (iv_M.up (iv_M.up (iv_M.up (iv_M.up (iv_M.up (iv_M.up (iv_M.up (iv_M.up (iv_M.up hI))))))))).ly 65 rfl) ?_
                  refine ev_iinc (lv' := [(0, .ref 65), (1, .int (nI 5)), (2, .int (nI j2)), (3, .int (nI j3)), (4, .int (nI j4)), (5, .int (nI j5)), (6, .int (nI j6)), (7, .int 5)]) (v := 5) dX7_feed_136 rfl (by decide) (by decide) rfl ?_
                  refine ev_goto (tgt := 68) dX7_feed_139 (by decide) ?_
                  refine ev_iload dX7_feed_68 rfl ?_
                  refine ev_iload_n dX7_feed_70 rfl rfl ?_
                  refine ev_icmp_ge (tgt := 142) dX7_feed_71 (by decide) (fun _ => ?_) (fun c => absurd (by decide) c)
                  refine ev_aload_n dX7_feed_142 rfl rfl ?_
                  refine ev_getI (v := nI (s_tp A + 1 + 1 + 1 + 1 + 1)) dX7_feed_143 fl_X7_79 (ly_k (iv_M.up (iv_M.up (iv_M.up (iv_M.up (iv_M.up (iv_M.up (iv_M.up (iv_M.up (iv_M.up (iv_M.up hI)))))))))).ly 65 rfl) am_rs ?_
                  refine ev_reti dX7_feed_146 rfl (Nat.zero_le _) (Nat.zero_le _) ?_
                  exact am_qPi (by unfold sp_feed; rw [if_pos (by simp [h1.1, h1.2, am_inN h2 (by omega), am_inN h3 (by omega), am_inN h4 (by omega), am_inN h5 (by omega), am_inN h6 (by omega)]), sN_n (show 5 < 2 ^ 31 by decide), if_neg (by omega)]; rfl) (iv_M.up (iv_M.up (iv_M.up (iv_M.up (iv_M.up (iv_M.up (iv_M.up (iv_M.up (iv_M.up (iv_M.up hI)))))))))) (fr_M.wr (by decide) (fr_M.wr (by decide) (fr_M.wr (by decide) (fr_M.wr (by decide) (fr_M.wr (by decide) (fr_M.wr (by decide) (fr_M.wr (by decide) (fr_M.wr (by decide) (fr_M.wr (by decide) (fr_M.wr (by decide) fr_M.rf))))))))))
              · skip
                have c7n : ¬ (s_tp A + jn) ≤ 160 := fun zz => c7 ((nI_leI (a := (s_tp A + jn)) (b := 160) (by omega) (by omega)).mpr zz)
                refine ev_bipush (v := (-4)) dX7_feed_62 (by decide) ?_
                refine ev_reti dX7_feed_64 rfl (Nat.zero_le _) (Nat.zero_le _) ?_
                exact am_qPi (by unfold sp_feed; rw [if_pos (by simp [h1.1, h1.2, am_inN h2 (by omega), am_inN h3 (by omega), am_inN h4 (by omega), am_inN h5 (by omega), am_inN h6 (by omega)]), sN_n (show jn < 2 ^ 31 by omega), if_pos (by omega)]) hI fr_M.rf
            · skip
              refine ev_if_ne (tgt := 50) dX7_feed_44 (by decide) (fun c => absurd (by decide) c) (fun _ => ?_)
              refine ev_bipush (v := (-2)) dX7_feed_47 (by decide) ?_
              refine ev_reti dX7_feed_49 rfl (Nat.zero_le _) (Nat.zero_le _) ?_
              exact am_qPi (by unfold sp_feed; rw [if_neg (by simp [h1.1, h1.2, am_inN h2 (by omega), am_inN h3 (by omega), am_inN h4 (by omega), am_inN h5 (by omega), am_inF (by omega) h6])]) hI fr_M.rf
          · skip
            refine ev_if_eq (tgt := 47) dX7_feed_36 (by decide) (fun _ => ?_) (fun c => absurd (by decide) c)
            refine ev_bipush (v := (-2)) dX7_feed_47 (by decide) ?_
            refine ev_reti dX7_feed_49 rfl (Nat.zero_le _) (Nat.zero_le _) ?_
            exact am_qPi (by unfold sp_feed; rw [if_neg (by simp [h1.1, h1.2, am_inN h2 (by omega), am_inN h3 (by omega), am_inN h4 (by omega), am_inF (by omega) h5])]) hI fr_M.rf
        · skip
          refine ev_if_eq (tgt := 47) dX7_feed_28 (by decide) (fun _ => ?_) (fun c => absurd (by decide) c)
          refine ev_bipush (v := (-2)) dX7_feed_47 (by decide) ?_
          refine ev_reti dX7_feed_49 rfl (Nat.zero_le _) (Nat.zero_le _) ?_
          exact am_qPi (by unfold sp_feed; rw [if_neg (by simp [h1.1, h1.2, am_inN h2 (by omega), am_inN h3 (by omega), am_inF (by omega) h4])]) hI fr_M.rf
      · skip
        refine ev_if_eq (tgt := 47) dX7_feed_20 (by decide) (fun _ => ?_) (fun c => absurd (by decide) c)
        refine ev_bipush (v := (-2)) dX7_feed_47 (by decide) ?_
        refine ev_reti dX7_feed_49 rfl (Nat.zero_le _) (Nat.zero_le _) ?_
        exact am_qPi (by unfold sp_feed; rw [if_neg (by simp [h1.1, h1.2, am_inN h2 (by omega), am_inF (by omega) h3])]) hI fr_M.rf
    · skip
      refine ev_if_eq (tgt := 47) dX7_feed_13 (by decide) (fun _ => ?_) (fun c => absurd (by decide) c)
      refine ev_bipush (v := (-2)) dX7_feed_47 (by decide) ?_
      refine ev_reti dX7_feed_49 rfl (Nat.zero_le _) (Nat.zero_le _) ?_
      exact am_qPi (by unfold sp_feed; rw [if_neg (by simp [h1.1, h1.2, am_inF (by omega) h2])]) hI fr_M.rf
  · skip
    refine ev_if_eq (tgt := 47) dX7_feed_6 (by decide) (fun _ => ?_) (fun c => absurd (by decide) c)
    refine ev_bipush (v := (-2)) dX7_feed_47 (by decide) ?_
    refine ev_reti dX7_feed_49 rfl (Nat.zero_le _) (Nat.zero_le _) ?_
    exact am_qPi (x := sp_feed A n a b c d e) (if_neg (fun z => by simp only [Bool.and_eq_true, decide_eq_true_eq] at z; exact h1 z.1)) hI fr_M.rf

set_option maxHeartbeats 400000 in
set_option maxRecDepth 100000 in
theorem c_X7_sheet (G : am_G) (D : Nat) (A : am_S) (σ : am_M) (hA : wf_A A) (hI : iv_M A σ) (s b n : Int32) : am_Mt G (D + 1) mX7_sheet [.ref 65, .int s, .int b, .int n] σ 0 0 (am_qP (sp_sheet A s b n) σ) := by
  have b7 := wf_np7 hA
  have b8 := wf_nq8 hA
  have b6 := wf_nt6 hA
  have b61 := wf_nt1 hA
  have b160 := wf_tp160 hA
  have brl := wf_rlt hA
  refine am_of moX7_sheet (Nat.le_of_ble_eq_true rfl) ?_
  show am_Ev G mX7_sheet (am_R (D + 1) 0 0) 0 0 (am_qP (sp_sheet A s b n) σ) 0 [(0, .ref 65), (1, .int s), (2, .int b), (3, .int n)] [] σ 0 0
  refine ev_iload_n dX7_sheet_0 rfl rfl ?_
  refine ev_iconst (v := 0) dX7_sheet_1 (by decide) ?_
  refine ev_iconst (v := 3) dX7_sheet_2 (by decide) ?_
  refine ev_callS (as := [.int s, .int 0, .int 3]) (st := []) dX7_sheet_3 mfX7_in lk_X7_90 (c_X7_in G D σ s 0 3) rfl rfl (Nat.le_of_ble_eq_true rfl) (am_hR (by omega) (by decide)) ⟨Nat.le_refl _, Nat.le_refl _⟩ ?_
  rintro _ _ (⟨h1, rfl, rfl⟩ | ⟨h1, rfl, rfl⟩)
  · skip
    obtain ⟨js, hjs, rfl⟩ := (am_rgl (n := 4) (by decide)).mp h1
    refine ev_if_eq (tgt := 29) dX7_sheet_6 (by decide) (fun c => absurd c (by decide)) (fun _ => ?_)
    refine ev_iload_n dX7_sheet_9 rfl rfl ?_
    refine ev_iconst (v := (-1)) dX7_sheet_10 (by decide) ?_
    refine ev_iconst (v := 2) dX7_sheet_11 (by decide) ?_
    refine ev_callS (as := [.int b, .int (-1), .int 2]) (st := []) dX7_sheet_12 mfX7_in lk_X7_90 (c_X7_in G D σ b (-1) 2) rfl rfl (Nat.le_of_ble_eq_true rfl) (am_hR (by omega) (by decide)) ⟨Nat.le_refl _, Nat.le_refl _⟩ ?_
    rintro _ _ (⟨h2, rfl, rfl⟩ | ⟨h2, rfl, rfl⟩)
    · skip
      refine ev_if_eq (tgt := 29) dX7_sheet_15 (by decide) (fun c => absurd c (by decide)) (fun _ => ?_)
      refine ev_iload_n dX7_sheet_18 rfl rfl ?_
      refine ev_iconst (v := (-1)) dX7_sheet_19 (by decide) ?_
      refine ev_icmp_eq (tgt := 32) dX7_sheet_20 (by decide) (fun c3 => ?_) (fun c3 => ?_)
      · skip
        refine ev_iload_n dX7_sheet_32 rfl rfl ?_
        refine ev_iconst (v := (-1)) dX7_sheet_33 (by decide) ?_
        refine ev_icmp_eq (tgt := 44) dX7_sheet_34 (by decide) (fun _ => ?_) (fun c => absurd (c3) c)
        refine ev_aload_n dX7_sheet_44 rfl rfl ?_
        refine ev_getR (b := 80) dX7_sheet_45 fl_X7_52 (ly_k hI.ly 65 rfl) (ly_r hI.ly 43 rfl) ?_
        refine ev_iload_n dX7_sheet_48 rfl rfl ?_
        refine ev_iload_n dX7_sheet_49 rfl rfl ?_
        refine ev_iast dX7_sheet_50 (ly_k hI.ly 80 rfl) (am_ixn (by omega) (by decide)) ?_
        refine ev_aload_n dX7_sheet_51 rfl rfl ?_
        refine ev_getR (b := 81) dX7_sheet_52 fl_X7_55 (ly_k (iv_M.up hI).ly 65 rfl) (ly_r (iv_M.up hI).ly 44 rfl) ?_
        refine ev_iload_n dX7_sheet_55 rfl rfl ?_
        refine ev_iload_n dX7_sheet_56 rfl rfl ?_
        refine ev_iconst (v := (-1)) dX7_sheet_57 (by decide) ?_
        refine ev_icmp_ne (tgt := 65) dX7_sheet_58 (by decide) (fun c => absurd (c3) c) (fun _ => ?_)
        refine ev_iconst (v := 0) dX7_sheet_61 (by decide) ?_
        refine ev_goto (tgt := 66) dX7_sheet_62 (by decide) ?_
        refine ev_iast dX7_sheet_66 (ly_k (iv_M.up hI).ly 81 rfl) (am_ixn (by omega) (by decide)) ?_
        refine ev_iconst (v := 0) dX7_sheet_67 (by decide) ?_
        refine ev_istore (lv' := [(0, .ref 65), (1, .int (nI js)), (2, .int b), (3, .int n), (4, .int 0)]) dX7_sheet_68 (by decide) rfl ?_
        have lp : ∀ (f : Nat) (m : Nat) (σ1 : am_M), (m ≤ 40) → (iv_M (s_s0 (am_up (am_up A 80 js b) 81 js 0) js m) σ1) → (fr_M σ σ1) → 40 - m < f → am_Ev G mX7_sheet (am_R (D + 1) 0 0) 0 0 (am_qP (sp_sheet A (nI js) b n) σ) 70 [(0, .ref 65), (1, .int (nI js)), (2, .int b), (3, .int n), (4, .int (nI m))] [] σ1 0 0 := by
          intro f
          induction f with
          | zero => intro m σ1 hm hI hF hf; exact absurd hf (Nat.not_lt_zero _)
          | succ f ih =>
            intro m σ1 hm hI hF hf
            refine ev_iload dX7_sheet_70 rfl ?_
            refine ev_bipush (v := 40) dX7_sheet_72 (by decide) ?_
            refine ev_icmp_ge (tgt := 96) dX7_sheet_74 (by decide) (fun c4 => ?_) (fun c4 => ?_)
            · skip
              have c4n : 40 ≤ m := (nI_leI (a := 40) (b := m) (by omega) (by omega)).mp c4
              refine ev_iconst (v := 1) dX7_sheet_96 (by decide) ?_
              refine ev_reti dX7_sheet_97 rfl (Nat.zero_le _) (Nat.zero_le _) ?_
              have e : m = 40 := by omega
              subst e
              exact am_qPi (by simp [sp_sheet, am_inN hjs (by omega), sN_n (show js < 2 ^ 31 by omega), am_sbT h2, c3, c4, Int32.not_lt.mpr c4, (by decide : am_sb (-1) = true)]) hI hF
            · skip
              have c4n : ¬ 40 ≤ m := fun zz => c4 ((nI_leI (a := 40) (b := m) (by omega) (by omega)).mpr zz)
              refine ev_aload_n dX7_sheet_77 rfl rfl ?_
              refine ev_getR (b := 82) dX7_sheet_78 fl_X7_58 (ly_k hI.ly 65 rfl) (ly_r hI.ly 45 rfl) ?_
              refine ev_bipush (v := 40) dX7_sheet_81 (by decide) ?_
              refine ev_iload_n dX7_sheet_83 rfl rfl ?_
              refine ev_imul (v := nI (40 * js)) dX7_sheet_84 (pk_mul 40 js) ?_
              refine ev_iload dX7_sheet_85 rfl ?_
              refine ev_iadd (v := nI (40 * js + m)) dX7_sheet_87 (nI_add (40 * js) m) ?_
              refine ev_iconst (v := 0) dX7_sheet_88 (by decide) ?_
              refine ev_iast dX7_sheet_89 (ly_k hI.ly 82 rfl) (am_ixn (by omega) (by decide)) ?_
              refine ev_iinc (lv' := [(0, .ref 65), (1, .int (nI js)), (2, .int b), (3, .int n), (4, .int (nI (m + 1)))]) (v := nI (m + 1)) dX7_sheet_90 rfl (nI_1 _) (by decide) rfl ?_
              refine ev_goto (tgt := 70) dX7_sheet_93 (by decide) ?_
              exact ih (m + 1) (am_sI σ1 82 (40 * js + m) 0) (by omega) (iv_M.up hI) (fr_M.wr (by decide) hF) (by omega)
        exact lp _ 0 (am_sI (am_sI σ 80 js b) 81 js 0) (by omega) (iv_M.up (iv_M.up hI)) (fr_M.wr (by decide) (fr_M.wr (by decide) fr_M.rf)) (Nat.lt_succ_self _)
      · skip
        refine ev_iload_n dX7_sheet_23 rfl rfl ?_
        refine ev_bipush (v := 40) dX7_sheet_24 (by decide) ?_
        refine ev_icmp_le (tgt := 32) dX7_sheet_26 (by decide) (fun c5 => ?_) (fun c5 => ?_)
        · skip
          refine ev_iload_n dX7_sheet_32 rfl rfl ?_
          refine ev_iconst (v := (-1)) dX7_sheet_33 (by decide) ?_
          refine ev_icmp_eq (tgt := 44) dX7_sheet_34 (by decide) (fun c => absurd c (c3)) (fun _ => ?_)
          refine ev_iload_n dX7_sheet_37 rfl rfl ?_
          refine ev_if_ge (tgt := 44) dX7_sheet_38 (by decide) (fun c6 => ?_) (fun c6 => ?_)
          · skip
            refine ev_aload_n dX7_sheet_44 rfl rfl ?_
            refine ev_getR (b := 80) dX7_sheet_45 fl_X7_52 (ly_k hI.ly 65 rfl) (ly_r hI.ly 43 rfl) ?_
            refine ev_iload_n dX7_sheet_48 rfl rfl ?_
            refine ev_iload_n dX7_sheet_49 rfl rfl ?_
            refine ev_iast dX7_sheet_50 (ly_k hI.ly 80 rfl) (am_ixn (by omega) (by decide)) ?_
            refine ev_aload_n dX7_sheet_51 rfl rfl ?_
            refine ev_getR (b := 81) dX7_sheet_52 fl_X7_55 (ly_k (iv_M.up hI).ly 65 rfl) (ly_r (iv_M.up hI).ly 44 rfl) ?_
            refine ev_iload_n dX7_sheet_55 rfl rfl ?_
            refine ev_iload_n dX7_sheet_56 rfl rfl ?_
            refine ev_iconst (v := (-1)) dX7_sheet_57 (by decide) ?_
            refine ev_icmp_ne (tgt := 65) dX7_sheet_58 (by decide) (fun _ => ?_) (fun c => absurd c (c3))
            refine ev_iload_n dX7_sheet_65 rfl rfl ?_
            refine ev_iast dX7_sheet_66 (ly_k (iv_M.up hI).ly 81 rfl) (am_ixn (by omega) (by decide)) ?_
            refine ev_iconst (v := 0) dX7_sheet_67 (by decide) ?_
            refine ev_istore (lv' := [(0, .ref 65), (1, .int (nI js)), (2, .int b), (3, .int n), (4, .int 0)]) dX7_sheet_68 (by decide) rfl ?_
            have lp : ∀ (f : Nat) (m : Nat) (σ1 : am_M), (m ≤ 40) → (iv_M (s_s0 (am_up (am_up A 80 js b) 81 js n) js m) σ1) → (fr_M σ σ1) → 40 - m < f → am_Ev G mX7_sheet (am_R (D + 1) 0 0) 0 0 (am_qP (sp_sheet A (nI js) b n) σ) 70 [(0, .ref 65), (1, .int (nI js)), (2, .int b), (3, .int n), (4, .int (nI m))] [] σ1 0 0 := by
              intro f
              induction f with
              | zero => intro m σ1 hm hI hF hf; exact absurd hf (Nat.not_lt_zero _)
              | succ f ih =>
                intro m σ1 hm hI hF hf
                refine ev_iload dX7_sheet_70 rfl ?_
                refine ev_bipush (v := 40) dX7_sheet_72 (by decide) ?_
                refine ev_icmp_ge (tgt := 96) dX7_sheet_74 (by decide) (fun c7 => ?_) (fun c7 => ?_)
                · skip
                  have c7n : 40 ≤ m := (nI_leI (a := 40) (b := m) (by omega) (by omega)).mp c7
                  refine ev_iconst (v := 1) dX7_sheet_96 (by decide) ?_
                  refine ev_reti dX7_sheet_97 rfl (Nat.zero_le _) (Nat.zero_le _) ?_
                  have e : m = 40 := by omega
                  subst e
                  exact am_qPi (by simp [sp_sheet, am_inN hjs (by omega), sN_n (show js < 2 ^ 31 by omega), am_sbT h2, c3, c5, Int32.not_lt.mpr c5, c6, Int32.not_lt.mpr c6, c7, Int32.not_lt.mpr c7, (by decide : am_sb (-1) = true)]) hI hF
                · skip
                  have c7n : ¬ 40 ≤ m := fun zz => c7 ((nI_leI (a := 40) (b := m) (by omega) (by omega)).mpr zz)
                  refine ev_aload_n dX7_sheet_77 rfl rfl ?_
                  refine ev_getR (b := 82) dX7_sheet_78 fl_X7_58 (ly_k hI.ly 65 rfl) (ly_r hI.ly 45 rfl) ?_
                  refine ev_bipush (v := 40) dX7_sheet_81 (by decide) ?_
                  refine ev_iload_n dX7_sheet_83 rfl rfl ?_
                  refine ev_imul (v := nI (40 * js)) dX7_sheet_84 (pk_mul 40 js) ?_
                  refine ev_iload dX7_sheet_85 rfl ?_
                  refine ev_iadd (v := nI (40 * js + m)) dX7_sheet_87 (nI_add (40 * js) m) ?_
                  refine ev_iconst (v := 0) dX7_sheet_88 (by decide) ?_
                  refine ev_iast dX7_sheet_89 (ly_k hI.ly 82 rfl) (am_ixn (by omega) (by decide)) ?_
                  refine ev_iinc (lv' := [(0, .ref 65), (1, .int (nI js)), (2, .int b), (3, .int n), (4, .int (nI (m + 1)))]) (v := nI (m + 1)) dX7_sheet_90 rfl (nI_1 _) (by decide) rfl ?_
                  refine ev_goto (tgt := 70) dX7_sheet_93 (by decide) ?_
                  exact ih (m + 1) (am_sI σ1 82 (40 * js + m) 0) (by omega) (iv_M.up hI) (fr_M.wr (by decide) hF) (by omega)
            exact lp _ 0 (am_sI (am_sI σ 80 js b) 81 js n) (by omega) (iv_M.up (iv_M.up hI)) (fr_M.wr (by decide) (fr_M.wr (by decide) fr_M.rf)) (Nat.lt_succ_self _)
          · skip
            refine ev_bipush (v := (-14)) dX7_sheet_41 (by decide) ?_
            refine ev_reti dX7_sheet_43 rfl (Nat.zero_le _) (Nat.zero_le _) ?_
            exact am_qPi (by simp [sp_sheet, am_inN hjs (by omega), sN_n (show js < 2 ^ 31 by omega), am_sbT h2, c3, c5, Int32.not_lt.mpr c5, c6, Int32.not_le.mp c6]) hI fr_M.rf
        · skip
          refine ev_bipush (v := (-2)) dX7_sheet_29 (by decide) ?_
          refine ev_reti dX7_sheet_31 rfl (Nat.zero_le _) (Nat.zero_le _) ?_
          exact am_qPi (by simp [sp_sheet, am_inN hjs (by omega), sN_n (show js < 2 ^ 31 by omega), am_sbT h2, c3, c5, Int32.not_le.mp c5]) hI fr_M.rf
    · skip
      refine ev_if_eq (tgt := 29) dX7_sheet_15 (by decide) (fun _ => ?_) (fun c => absurd (by decide) c)
      refine ev_bipush (v := (-2)) dX7_sheet_29 (by decide) ?_
      refine ev_reti dX7_sheet_31 rfl (Nat.zero_le _) (Nat.zero_le _) ?_
      exact am_qPi (by simp [sp_sheet, am_inN hjs (by omega), sN_n (show js < 2 ^ 31 by omega), am_sbF h2]) hI fr_M.rf
  · skip
    have hsr : ¬ am_rg s 4 := fun q => h1 ((am_rgl (n := 4) (by decide)).mpr q)
    refine ev_if_eq (tgt := 29) dX7_sheet_6 (by decide) (fun _ => ?_) (fun c => absurd (by decide) c)
    refine ev_bipush (v := (-2)) dX7_sheet_29 (by decide) ?_
    refine ev_reti dX7_sheet_31 rfl (Nat.zero_le _) (Nat.zero_le _) ?_
    exact am_qPi (by simp [sp_sheet, am_inF (by omega) hsr]) hI fr_M.rf

set_option maxHeartbeats 400000 in
set_option maxRecDepth 100000 in
theorem c_X7_cell (G : am_G) (D : Nat) (A : am_S) (σ : am_M) (hA : wf_A A) (hI : iv_M A σ) (s i v : Int32) : am_Mt G (D + 1) mX7_cell [.ref 65, .int s, .int i, .int v] σ 0 0 (am_qP (sp_cell A s i v) σ) := by
  have b7 := wf_np7 hA
  have b8 := wf_nq8 hA
  have b6 := wf_nt6 hA
  have b61 := wf_nt1 hA
  have b160 := wf_tp160 hA
  have brl := wf_rlt hA
  refine am_of moX7_cell (Nat.le_of_ble_eq_true rfl) ?_
  show am_Ev G mX7_cell (am_R (D + 1) 0 0) 0 0 (am_qP (sp_cell A s i v) σ) 0 [(0, .ref 65), (1, .int s), (2, .int i), (3, .int v)] [] σ 0 0
  refine ev_iload_n dX7_cell_0 rfl rfl ?_
  refine ev_iconst (v := 0) dX7_cell_1 (by decide) ?_
  refine ev_iconst (v := 3) dX7_cell_2 (by decide) ?_
  refine ev_callS (as := [.int s, .int 0, .int 3]) (st := []) dX7_cell_3 mfX7_in lk_X7_90 (c_X7_in G D σ s 0 3) rfl rfl (Nat.le_of_ble_eq_true rfl) (am_hR (by omega) (by decide)) ⟨Nat.le_refl _, Nat.le_refl _⟩ ?_
  rintro _ _ (⟨h1, rfl, rfl⟩ | ⟨h1, rfl, rfl⟩)
  · skip
    obtain ⟨js, hjs, rfl⟩ := (am_rgl (n := 4) (by decide)).mp h1
    refine ev_if_ne (tgt := 12) dX7_cell_6 (by decide) (fun _ => ?_) (fun c => absurd c (by decide))
    obtain ⟨m, hm, em⟩ := am_sz hA hjs
    refine ev_aload_n dX7_cell_12 rfl rfl ?_
    refine ev_getR (b := 80) dX7_cell_13 fl_X7_52 (ly_k hI.ly 65 rfl) (ly_r hI.ly 43 rfl) ?_
    refine ev_iload_n dX7_cell_16 rfl rfl ?_
    refine ev_iald (v := A 80 js) dX7_cell_17 (ly_k hI.ly 80 rfl) (am_ixn (by omega) (by decide)) (hI.rd 80 js rfl) ?_
    refine ev_iconst (v := (-1)) dX7_cell_18 (by decide) ?_
    refine ev_icmp_ne (tgt := 25) dX7_cell_19 (by decide) (fun c2 => ?_) (fun c2 => ?_)
    · skip
      refine ev_iload_n dX7_cell_25 rfl rfl ?_
      refine ev_iconst (v := 0) dX7_cell_26 (by decide) ?_
      refine ev_aload_n dX7_cell_27 rfl rfl ?_
      refine ev_getR (b := 81) dX7_cell_28 fl_X7_55 (ly_k hI.ly 65 rfl) (ly_r hI.ly 44 rfl) ?_
      refine ev_iload_n dX7_cell_31 rfl rfl ?_
      refine ev_iald (v := nI m) dX7_cell_32 (ly_k hI.ly 81 rfl) (am_ixn (by omega) (by decide)) ((hI.rd 81 js rfl).trans em) ?_
      refine ev_iconst (v := 1) dX7_cell_33 (by decide) ?_
      refine ev_isub (v := (nI m) - 1) dX7_cell_34 rfl ?_
      refine ev_callS (as := [.int i, .int 0, .int ((nI m) - 1)]) (st := []) dX7_cell_35 mfX7_in lk_X7_90 (c_X7_in G D σ i 0 ((nI m) - 1)) rfl rfl (Nat.le_of_ble_eq_true rfl) (am_hR (by omega) (by decide)) ⟨Nat.le_refl _, Nat.le_refl _⟩ ?_
      rintro _ _ (⟨h3, rfl, rfl⟩ | ⟨h3, rfl, rfl⟩)
      · skip
        obtain ⟨ji, hji, rfl⟩ := (am_rgp (by omega)).mp h3
        refine ev_if_ne (tgt := 44) dX7_cell_38 (by decide) (fun _ => ?_) (fun c => absurd c (by decide))
        refine ev_aload_n dX7_cell_44 rfl rfl ?_
        refine ev_getR (b := 82) dX7_cell_45 fl_X7_58 (ly_k hI.ly 65 rfl) (ly_r hI.ly 45 rfl) ?_
        refine ev_bipush (v := 40) dX7_cell_48 (by decide) ?_
        refine ev_iload_n dX7_cell_50 rfl rfl ?_
        refine ev_imul (v := nI (40 * js)) dX7_cell_51 (pk_mul 40 js) ?_
        refine ev_iload_n dX7_cell_52 rfl rfl ?_
        refine ev_iadd (v := nI (40 * js + ji)) dX7_cell_53 (nI_add (40 * js) ji) ?_
        refine ev_aload_n dX7_cell_54 rfl rfl ?_
        refine ev_getR (b := 80) dX7_cell_55 fl_X7_52 (ly_k hI.ly 65 rfl) (ly_r hI.ly 43 rfl) ?_
        refine ev_iload_n dX7_cell_58 rfl rfl ?_
        refine ev_iald (v := A 80 js) dX7_cell_59 (ly_k hI.ly 80 rfl) (am_ixn (by omega) (by decide)) (hI.rd 80 js rfl) ?_
        refine ev_if_ne (tgt := 68) dX7_cell_60 (by decide) (fun c4 => ?_) (fun c4 => ?_)
        · skip
          refine ev_aload_n dX7_cell_68 rfl rfl ?_
          refine ev_getR (b := 80) dX7_cell_69 fl_X7_52 (ly_k hI.ly 65 rfl) (ly_r hI.ly 43 rfl) ?_
          refine ev_iload_n dX7_cell_72 rfl rfl ?_
          refine ev_iald (v := A 80 js) dX7_cell_73 (ly_k hI.ly 80 rfl) (am_ixn (by omega) (by decide)) (hI.rd 80 js rfl) ?_
          refine ev_iconst (v := 1) dX7_cell_74 (by decide) ?_
          refine ev_icmp_ne (tgt := 83) dX7_cell_75 (by decide) (fun c5 => ?_) (fun c5 => ?_)
          · skip
            refine ev_iload_n dX7_cell_83 rfl rfl ?_
            refine ev_iast dX7_cell_84 (ly_k hI.ly 82 rfl) (am_ixn (by omega) (by decide)) ?_
            refine ev_iconst (v := 1) dX7_cell_85 (by decide) ?_
            refine ev_reti dX7_cell_86 rfl (Nat.zero_le _) (Nat.zero_le _) ?_
            exact am_qPi (by simp [sp_cell, s_cast, em, sN_n (show m < 2 ^ 31 by omega), am_inN hjs (by omega), sN_n (show js < 2 ^ 31 by omega), am_inN hji (by omega), sN_n (show ji < 2 ^ 31 by omega), c2, c4, c5]) (iv_M.up hI) (fr_M.wr (by decide) fr_M.rf)
          · skip
            refine ev_iload_n dX7_cell_78 rfl rfl ?_
            refine ev_i2s (v := (v : Int32).toInt16.toInt32) dX7_cell_79 rfl ?_
            refine ev_goto (tgt := 84) dX7_cell_80 (by decide) ?_
            refine ev_iast dX7_cell_84 (ly_k hI.ly 82 rfl) (am_ixn (by omega) (by decide)) ?_
            refine ev_iconst (v := 1) dX7_cell_85 (by decide) ?_
            refine ev_reti dX7_cell_86 rfl (Nat.zero_le _) (Nat.zero_le _) ?_
            exact am_qPi (by simp [sp_cell, s_cast, em, sN_n (show m < 2 ^ 31 by omega), am_inN hjs (by omega), sN_n (show js < 2 ^ 31 by omega), am_inN hji (by omega), sN_n (show ji < 2 ^ 31 by omega), c2, c4, c5]) (iv_M.up hI) (fr_M.wr (by decide) fr_M.rf)
        · skip
          refine ev_iload_n dX7_cell_63 rfl rfl ?_
          refine ev_i2b (v := (v : Int32).toInt8.toInt32) dX7_cell_64 rfl ?_
          refine ev_goto (tgt := 84) dX7_cell_65 (by decide) ?_
          refine ev_iast dX7_cell_84 (ly_k hI.ly 82 rfl) (am_ixn (by omega) (by decide)) ?_
          refine ev_iconst (v := 1) dX7_cell_85 (by decide) ?_
          refine ev_reti dX7_cell_86 rfl (Nat.zero_le _) (Nat.zero_le _) ?_
          exact am_qPi (by simp [sp_cell, s_cast, em, sN_n (show m < 2 ^ 31 by omega), am_inN hjs (by omega), sN_n (show js < 2 ^ 31 by omega), am_inN hji (by omega), sN_n (show ji < 2 ^ 31 by omega), c2, c4]) (iv_M.up hI) (fr_M.wr (by decide) fr_M.rf)
      · skip
        have hir : ¬ am_rg i m := fun q => h3 ((am_rgp (by omega)).mpr q)
        refine ev_if_ne (tgt := 44) dX7_cell_38 (by decide) (fun c => absurd (by decide) c) (fun _ => ?_)
        refine ev_bipush (v := (-12)) dX7_cell_41 (by decide) ?_
        refine ev_reti dX7_cell_43 rfl (Nat.zero_le _) (Nat.zero_le _) ?_
        exact am_qPi (by simp [sp_cell, s_cast, em, sN_n (show m < 2 ^ 31 by omega), am_inN hjs (by omega), sN_n (show js < 2 ^ 31 by omega), am_inF (by omega) hir, c2]) hI fr_M.rf
    · skip
      refine ev_bipush (v := (-11)) dX7_cell_22 (by decide) ?_
      refine ev_reti dX7_cell_24 rfl (Nat.zero_le _) (Nat.zero_le _) ?_
      exact am_qPi (by simp [sp_cell, s_cast, em, sN_n (show m < 2 ^ 31 by omega), am_inN hjs (by omega), sN_n (show js < 2 ^ 31 by omega), c2]) hI fr_M.rf
  · skip
    have hsr : ¬ am_rg s 4 := fun q => h1 ((am_rgl (n := 4) (by decide)).mpr q)
    refine ev_if_ne (tgt := 12) dX7_cell_6 (by decide) (fun c => absurd (by decide) c) (fun _ => ?_)
    refine ev_bipush (v := (-2)) dX7_cell_9 (by decide) ?_
    refine ev_reti dX7_cell_11 rfl (Nat.zero_le _) (Nat.zero_le _) ?_
    exact am_qPi (by simp [sp_cell, s_cast, am_inF (by omega) hsr]) hI fr_M.rf

theorem am_i6 {j : Nat} (h : j < 7) : nI j = 6 ↔ j = 6 := nI_eq (b := 6) (by omega) (by decide)
theorem sp_tkQ {A : am_S} {i k : Nat} (hi : i < 8) (hk : k < 7) : sp_taken A (nI i) (nI k) = if i < s_nq A then (if k = 6 then A 72 i else -13) else -11 := by
  unfold sp_taken
  rw [am_inN hk (by omega), am_inN (show i < 15 by omega) (by omega), if_pos rfl, if_pos rfl, if_pos (show nI i < 8 from (nI_ltI (b := 8) (by omega) (by decide)).mpr hi), sN_n (by omega)]
  simp only [am_i6 hk]
theorem sp_tkP {A : am_S} {i k : Nat} (hi : ¬ i < 8) (hi2 : i < 15) (hk : k < 7) : sp_taken A (nI i) (nI k) = if i - 8 < s_np A then (if k ≠ 6 ∧ s_un (A 66 (i - 8)) (nI k) = true then nI (i - 8) else -13) else -11 := by
  unfold sp_taken
  rw [am_inN hk (by omega), am_inN hi2 (by omega), if_pos rfl, if_pos rfl, if_neg (show ¬ nI i < 8 from fun z => hi ((nI_ltI (b := 8) (by omega) (by decide)).mp z)), sN_n (by omega)]
  simp only [ne_eq, am_i6 hk]
set_option maxHeartbeats 400000 in
set_option maxRecDepth 100000 in
theorem c_X7_taken (G : am_G) (D : Nat) (A : am_S) (σ : am_M) (hA : wf_A A) (hI : iv_M A σ) (i k : Int32) : am_Mt G (D + 1) mX7_taken [.ref 65, .int i, .int k] σ 0 0 (am_q (.int (sp_taken A i k)) σ) := by
  have b7 := wf_np7 hA
  have b8 := wf_nq8 hA
  have b6 := wf_nt6 hA
  have b61 := wf_nt1 hA
  have b160 := wf_tp160 hA
  have brl := wf_rlt hA
  refine am_of moX7_taken (Nat.le_of_ble_eq_true rfl) ?_
  show am_Ev G mX7_taken (am_R (D + 1) 0 0) 0 0 (am_q (.int (sp_taken A i k)) σ) 0 [(0, .ref 65), (1, .int i), (2, .int k)] [] σ 0 0
  refine ev_iload_n dX7_taken_0 rfl rfl ?_
  refine ev_iconst (v := 0) dX7_taken_1 (by decide) ?_
  refine ev_bipush (v := 6) dX7_taken_2 (by decide) ?_
  refine ev_callS (as := [.int k, .int 0, .int 6]) (st := []) dX7_taken_4 mfX7_in lk_X7_90 (c_X7_in G D σ k 0 6) rfl rfl (Nat.le_of_ble_eq_true rfl) (am_hR (by omega) (by decide)) ⟨Nat.le_refl _, Nat.le_refl _⟩ ?_
  rintro _ _ (⟨h1, rfl, rfl⟩ | ⟨h1, rfl, rfl⟩)
  · skip
    obtain ⟨jk, hjk, rfl⟩ := (am_rgl (n := 7) (by decide)).mp h1
    refine ev_if_ne (tgt := 13) dX7_taken_7 (by decide) (fun _ => ?_) (fun c => absurd c (by decide))
    refine ev_iload_n dX7_taken_13 rfl rfl ?_
    refine ev_iconst (v := 0) dX7_taken_14 (by decide) ?_
    refine ev_bipush (v := 14) dX7_taken_15 (by decide) ?_
    refine ev_callS (as := [.int i, .int 0, .int 14]) (st := []) dX7_taken_17 mfX7_in lk_X7_90 (c_X7_in G D σ i 0 14) rfl rfl (Nat.le_of_ble_eq_true rfl) (am_hR (by omega) (by decide)) ⟨Nat.le_refl _, Nat.le_refl _⟩ ?_
    rintro _ _ (⟨h2, rfl, rfl⟩ | ⟨h2, rfl, rfl⟩)
    · skip
      obtain ⟨ji, hji, rfl⟩ := (am_rgl (n := 15) (by decide)).mp h2
      refine ev_if_ne (tgt := 26) dX7_taken_20 (by decide) (fun _ => ?_) (fun c => absurd c (by decide))
      refine ev_iload_n dX7_taken_26 rfl rfl ?_
      refine ev_bipush (v := 8) dX7_taken_27 (by decide) ?_
      refine ev_icmp_ge (tgt := 63) dX7_taken_29 (by decide) (fun c3 => ?_) (fun c3 => ?_)
      · skip
        have c3n : 8 ≤ ji := (nI_leI (a := 8) (b := ji) (by omega) (by omega)).mp c3
        refine ev_iload_n dX7_taken_63 rfl rfl ?_
        refine ev_bipush (v := 8) dX7_taken_64 (by decide) ?_
        refine ev_isub (v := nI (ji - 8)) dX7_taken_66 (pk_sub (b := 8) (by omega)) ?_
        refine ev_aload_n dX7_taken_67 rfl rfl ?_
        refine ev_getI (v := nI (s_np A)) dX7_taken_68 fl_X7_87 (ly_k hI.ly 65 rfl) ((hI.rd 65 0 rfl).trans (wf_np hA)) ?_
        refine ev_icmp_lt (tgt := 79) dX7_taken_71 (by decide) (fun c4 => ?_) (fun c4 => ?_)
        · skip
          have c4n : (ji - 8) < (s_np A) := (nI_ltI (a := (ji - 8)) (b := (s_np A)) (by omega) (by omega)).mp c4
          refine ev_iload_n dX7_taken_79 rfl rfl ?_
          refine ev_bipush (v := 6) dX7_taken_80 (by decide) ?_
          refine ev_icmp_ge (tgt := 108) dX7_taken_82 (by decide) (fun c5 => ?_) (fun c5 => ?_)
          · skip
            have c5n : 6 ≤ jk := (nI_leI (a := 6) (b := jk) (by omega) (by omega)).mp c5
            refine ev_bipush (v := (-13)) dX7_taken_108 (by decide) ?_
            refine ev_reti dX7_taken_110 rfl (Nat.zero_le _) (Nat.zero_le _) ?_
            refine ⟨?_, rfl⟩
            rw [sp_tkP (by omega) hji hjk, if_pos (by omega), if_neg (fun z => z.1 (by omega))]
          · skip
            have c5n : ¬ 6 ≤ jk := fun zz => c5 ((nI_leI (a := 6) (b := jk) (by omega) (by omega)).mpr zz)
            refine ev_aload_n dX7_taken_85 rfl rfl ?_
            refine ev_getR (b := 66) dX7_taken_86 fl_X7_7 (ly_k hI.ly 65 rfl) (ly_r hI.ly 29 rfl) ?_
            refine ev_iload_n dX7_taken_89 rfl rfl ?_
            refine ev_bipush (v := 8) dX7_taken_90 (by decide) ?_
            refine ev_isub (v := nI (ji - 8)) dX7_taken_92 (pk_sub (b := 8) (by omega)) ?_
            refine ev_iald (v := A 66 (ji - 8)) dX7_taken_93 (ly_k hI.ly 66 rfl) (am_ixn (by omega) (by decide)) (hI.rd 66 (ji - 8) rfl) ?_
            refine ev_iload_n dX7_taken_94 rfl rfl ?_
            refine ev_callS (as := [.int (A 66 (ji - 8)), .int (nI jk)]) (st := []) dX7_taken_95 mfX7_isUnder lk_X7_286 (c_X7_isUnder G D σ (A 66 (ji - 8)) (nI jk)) rfl rfl (Nat.le_of_ble_eq_true rfl) (am_hR (by omega) (by decide)) ⟨Nat.le_refl _, Nat.le_refl _⟩ ?_
            rintro _ _ (⟨h6, rfl, rfl⟩ | ⟨h6, rfl, rfl⟩)
            · skip
              refine ev_if_eq (tgt := 108) dX7_taken_98 (by decide) (fun c => absurd c (by decide)) (fun _ => ?_)
              refine ev_iload_n dX7_taken_101 rfl rfl ?_
              refine ev_bipush (v := 8) dX7_taken_102 (by decide) ?_
              refine ev_isub (v := nI (ji - 8)) dX7_taken_104 (pk_sub (b := 8) (by omega)) ?_
              refine ev_goto (tgt := 110) dX7_taken_105 (by decide) ?_
              refine ev_reti dX7_taken_110 rfl (Nat.zero_le _) (Nat.zero_le _) ?_
              have hu : s_un (A 66 (ji - 8)) (nI jk) = true := decide_eq_true h6
              refine ⟨?_, rfl⟩
              rw [sp_tkP (by omega) hji hjk, if_pos (by omega), if_pos ⟨by omega, hu⟩]
            · skip
              refine ev_if_eq (tgt := 108) dX7_taken_98 (by decide) (fun _ => ?_) (fun c => absurd (by decide) c)
              refine ev_bipush (v := (-13)) dX7_taken_108 (by decide) ?_
              refine ev_reti dX7_taken_110 rfl (Nat.zero_le _) (Nat.zero_le _) ?_
              have hu : s_un (A 66 (ji - 8)) (nI jk) = false := decide_eq_false h6
              refine ⟨?_, rfl⟩
              rw [sp_tkP (by omega) hji hjk, if_pos (by omega), if_neg (fun z => by rw [hu] at z; exact absurd z.2 (by decide))]
        · skip
          have c4n : ¬ (ji - 8) < (s_np A) := fun zz => c4 ((nI_ltI (a := (ji - 8)) (b := (s_np A)) (by omega) (by omega)).mpr zz)
          refine ev_bipush (v := (-11)) dX7_taken_74 (by decide) ?_
          refine ev_goto (tgt := 110) dX7_taken_76 (by decide) ?_
          refine ev_reti dX7_taken_110 rfl (Nat.zero_le _) (Nat.zero_le _) ?_
          refine ⟨?_, rfl⟩
          rw [sp_tkP (by omega) hji hjk, if_neg (by omega)]
      · skip
        have c3n : ¬ 8 ≤ ji := fun zz => c3 ((nI_leI (a := 8) (b := ji) (by omega) (by omega)).mpr zz)
        refine ev_iload_n dX7_taken_32 rfl rfl ?_
        refine ev_aload_n dX7_taken_33 rfl rfl ?_
        refine ev_getI (v := nI (s_nq A)) dX7_taken_34 fl_X7_94 (ly_k hI.ly 65 rfl) ((hI.rd 65 6 rfl).trans (wf_nq hA)) ?_
        refine ev_icmp_lt (tgt := 45) dX7_taken_37 (by decide) (fun c7 => ?_) (fun c7 => ?_)
        · skip
          have c7n : ji < (s_nq A) := (nI_ltI (a := ji) (b := (s_nq A)) (by omega) (by omega)).mp c7
          refine ev_iload_n dX7_taken_45 rfl rfl ?_
          refine ev_bipush (v := 6) dX7_taken_46 (by decide) ?_
          refine ev_icmp_ne (tgt := 60) dX7_taken_48 (by decide) (fun c8 => ?_) (fun c8 => ?_)
          · skip
            have c8n : ¬ jk = 6 := fun zz => c8 ((nI_eq (a := jk) (b := 6) (by omega) (by omega)).mpr zz)
            refine ev_bipush (v := (-13)) dX7_taken_60 (by decide) ?_
            refine ev_reti dX7_taken_62 rfl (Nat.zero_le _) (Nat.zero_le _) ?_
            refine ⟨?_, rfl⟩
            rw [sp_tkQ (by omega) hjk, if_pos (by omega), if_neg (by omega)]
          · skip
            have c8n : jk = 6 := (nI_eq (a := jk) (b := 6) (by omega) (by omega)).mp c8
            refine ev_aload_n dX7_taken_51 rfl rfl ?_
            refine ev_getR (b := 72) dX7_taken_52 fl_X7_28 (ly_k hI.ly 65 rfl) (ly_r hI.ly 35 rfl) ?_
            refine ev_iload_n dX7_taken_55 rfl rfl ?_
            refine ev_iald (v := A 72 ji) dX7_taken_56 (ly_k hI.ly 72 rfl) (am_ixn (by omega) (by decide)) (hI.rd 72 ji rfl) ?_
            refine ev_goto (tgt := 62) dX7_taken_57 (by decide) ?_
            refine ev_reti dX7_taken_62 rfl (Nat.zero_le _) (Nat.zero_le _) ?_
            refine ⟨?_, rfl⟩
            rw [sp_tkQ (by omega) hjk, if_pos (by omega), if_pos (by omega)]
        · skip
          have c7n : ¬ ji < (s_nq A) := fun zz => c7 ((nI_ltI (a := ji) (b := (s_nq A)) (by omega) (by omega)).mpr zz)
          refine ev_bipush (v := (-11)) dX7_taken_40 (by decide) ?_
          refine ev_goto (tgt := 62) dX7_taken_42 (by decide) ?_
          refine ev_reti dX7_taken_62 rfl (Nat.zero_le _) (Nat.zero_le _) ?_
          refine ⟨?_, rfl⟩
          rw [sp_tkQ (by omega) hjk, if_neg (by omega)]
    · skip
      have hir : ¬ am_rg i 15 := fun q => h2 ((am_rgl (n := 15) (by decide)).mpr q)
      refine ev_if_ne (tgt := 26) dX7_taken_20 (by decide) (fun c => absurd (by decide) c) (fun _ => ?_)
      refine ev_bipush (v := (-12)) dX7_taken_23 (by decide) ?_
      refine ev_reti dX7_taken_25 rfl (Nat.zero_le _) (Nat.zero_le _) ?_
      exact ⟨by simp [sp_taken, am_inF (by omega) hir, am_inN hjk (by omega)], rfl⟩
  · skip
    have hkr : ¬ am_rg k 7 := fun q => h1 ((am_rgl (n := 7) (by decide)).mpr q)
    refine ev_if_ne (tgt := 13) dX7_taken_7 (by decide) (fun c => absurd (by decide) c) (fun _ => ?_)
    refine ev_bipush (v := (-2)) dX7_taken_10 (by decide) ?_
    refine ev_reti dX7_taken_12 rfl (Nat.zero_le _) (Nat.zero_le _) ?_
    exact ⟨by simp [sp_taken, am_inF (by omega) hkr], rfl⟩

