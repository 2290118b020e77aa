/-! the reference: unwinding what is held -/
set_option maxHeartbeats 400000 in
set_option maxRecDepth 100000 in
theorem c_X7_unwinds (G : am_G) (D : Nat) (A : am_S) (σ : am_M) (H l : List Int32) (o : Nat) (hA : wf_T A) (hI : iv_M (cd_S A l) σ) (hs : hs_R σ H o l) (hnt : s_nt A < 6) (hln : H.length + l.length < 199) (ho : o = oc H) (r : Int32) (hr : 0 < r) : am_Mt G (D + 1) mX7_unwinds [.ref 65, .int r] σ 0 0 (am_qH A (uw r H o l).1 (uw r H o l).2.1 (uw r H o l).2.2 σ) := by
  have b6 := wt_6 hA
  have b160 := wt_160 hA
  refine am_of moX7_unwinds (Nat.le_of_ble_eq_true rfl) ?_
  show am_Ev G mX7_unwinds (am_R (D + 1) 0 0) 0 0 (am_qH A (uw r H o l).1 (uw r H o l).2.1 (uw r H o l).2.2 σ) 0 [(0, .ref 65), (1, .int r)] [] σ 0 0
  have lp : ∀ (f : Nat) (H1 : List Int32) (l1 : List Int32) (o1 : Nat) (σ1 : am_M), (uw r H1 o1 l1 = uw r H o l) → (o1 = oc H1) → (H1.length + l1.length < 199) → (iv_M (cd_S A l1) σ1) → (hs_R σ1 H1 o1 l1) → (fr_P σ σ1) → H1.length < f → am_Ev G mX7_unwinds (am_R (D + 1) 0 0) 0 0 (am_qH A (uw r H o l).1 (uw r H o l).2.1 (uw r H o l).2.2 σ) 0 [(0, .ref 65), (1, .int r)] [] σ1 0 0 := by
    intro f
    induction f with
    | zero => intro H1 l1 o1 σ1 hu ho1 hln1 hI1 hs1 hF1 hf; exact absurd hf (Nat.not_lt_zero _)
    | succ f ih =>
      intro H1 l1 o1 σ1 hu ho1 hln1 hI1 hs1 hF1 hf
      refine ev_aload_n dX7_unwinds_0 rfl rfl ?_
      cases H1 with
      | nil =>
        refine ev_getI (v := nI 0) dX7_unwinds_1 fl_X7_126 (ly_k hI1.ly 65 rfl) hs1.1 ?_
        refine ev_if_le (tgt := 79) dX7_unwinds_4 (by decide) (fun _ => ?_) (fun c => absurd (by decide) c)
        refine ev_retv dX7_unwinds_79 rfl (Nat.zero_le _) (Nat.zero_le _) ?_
        rw [← hu]
        exact ⟨rfl, hI1, hs1, hF1⟩
      | cons c H2 =>
        rw [List.length_cons] at hln1 hf
        have hoc : o1 = oc H2 + (if c = 0 ∨ c = 13 ∨ c = 19 then 1 else 0) := ho1
        refine ev_getI (v := nI (H2.length + 1)) dX7_unwinds_1 fl_X7_126 (ly_k hI1.ly 65 rfl) hs1.1 ?_
        refine ev_if_le (tgt := 79) dX7_unwinds_4 (by decide) (fun c => absurd c (fun z => absurd ((nI_leI (b := 0) (by omega) (by decide)).mp z) (by omega))) (fun _ => ?_)
        refine ev_aload_n dX7_unwinds_7 rfl rfl ?_
        refine ev_getR (b := 85) dX7_unwinds_8 fl_X7_67 (ly_k hI1.ly 65 rfl) (ly_r hI1.ly 48 rfl) ?_
        refine ev_aload_n dX7_unwinds_11 rfl rfl ?_
        refine ev_getI (v := nI (H2.length + 1)) dX7_unwinds_12 fl_X7_126 (ly_k hI1.ly 65 rfl) hs1.1 ?_
        refine ev_iconst (v := 1) dX7_unwinds_15 (by decide) ?_
        refine ev_isub (v := nI H2.length) dX7_unwinds_16 (nI_pred _) ?_
        refine ev_iald (v := c) dX7_unwinds_17 (ly_k hI1.ly 85 rfl) (am_ixn (by omega) (by decide)) hs1.2.1.1 ?_
        refine ev_callS (as := [.int c]) (st := []) dX7_unwinds_18 mfX7_rank lk_X7_129 (c_X7_rank G D σ1 c) rfl rfl (Nat.le_of_ble_eq_true rfl) (am_hR (by omega) (by decide)) ⟨Nat.le_refl _, Nat.le_refl _⟩ ?_
        rintro _ _ ⟨rfl, rfl⟩
        refine ev_iload_n dX7_unwinds_21 rfl rfl ?_
        refine ev_icmp_lt (tgt := 79) dX7_unwinds_22 (by decide) (fun c1 => ?_) (fun c1 => ?_)
        · skip
          refine ev_retv dX7_unwinds_79 rfl (Nat.zero_le _) (Nat.zero_le _) ?_
          rw [← hu, uw_lo (show mr_tp r (c :: H2) from c1)]
          exact ⟨rfl, hI1, hs1, hF1⟩
        · skip
          refine ev_aload_n dX7_unwinds_25 rfl rfl ?_
          refine ev_dup dX7_unwinds_26 rfl ?_
          refine ev_getI (v := nI (H2.length + 1)) dX7_unwinds_27 fl_X7_126 (ly_k hI1.ly 65 rfl) hs1.1 ?_
          refine ev_iconst (v := 1) dX7_unwinds_30 (by decide) ?_
          refine ev_isub (v := nI H2.length) dX7_unwinds_31 (nI_pred _) ?_
          refine ev_putI dX7_unwinds_32 fl_X7_126 rfl rfl (ly_k hI1.ly 65 rfl) ?_
          refine ev_aload_n dX7_unwinds_35 rfl rfl ?_
          refine ev_getR (b := 85) dX7_unwinds_36 fl_X7_67 (ly_k (iv_M.sc rfl hI1).ly 65 rfl) (ly_r (iv_M.sc rfl hI1).ly 48 rfl) ?_
          refine ev_aload_n dX7_unwinds_39 rfl rfl ?_
          refine ev_getI (v := nI H2.length) dX7_unwinds_40 fl_X7_126 (ly_k (iv_M.sc rfl hI1).ly 65 rfl) am_rs ?_
          refine ev_iald (v := c) dX7_unwinds_43 (ly_k (iv_M.sc rfl hI1).ly 85 rfl) (am_ixn (by omega) (by decide)) (am_ru (by omega) hs1.2.1.1) ?_
          refine ev_istore_n (lv' := [(0, .ref 65), (1, .int r), (2, .int c)]) dX7_unwinds_44 rfl (by decide) rfl ?_
          refine ev_aload_n dX7_unwinds_45 rfl rfl ?_
          refine ev_dup dX7_unwinds_46 rfl ?_
          refine ev_getI (v := nI o1) dX7_unwinds_47 fl_X7_133 (ly_k (iv_M.sc rfl hI1).ly 65 rfl) (am_ru (by omega) hs1.2.2.1) ?_
          refine ev_iload_n dX7_unwinds_50 rfl rfl ?_
          refine ev_bipush (v := 13) dX7_unwinds_51 (by decide) ?_
          refine ev_icmp_eq (tgt := 62) dX7_unwinds_53 (by decide) (fun c2 => ?_) (fun c2 => ?_)
          · skip
            have hc3 : c = 13 ∨ c = 19 := by first | exact Or.inl c2 | exact Or.inr c2
            have ho1p : o1 = oc H2 + 1 := by rw [hoc, if_pos (Or.inr hc3)]
            refine ev_iconst (v := 1) dX7_unwinds_62 (by decide) ?_
            refine ev_goto (tgt := 67) dX7_unwinds_63 (by decide) ?_
            refine ev_isub (v := nI (o1 - 1)) dX7_unwinds_67 (pk_sub (b := 1) (by omega)) ?_
            refine ev_putI dX7_unwinds_68 fl_X7_133 rfl rfl (ly_k (iv_M.sc rfl hI1).ly 65 rfl) ?_
            refine ev_aload_n dX7_unwinds_71 rfl rfl ?_
            refine ev_iload_n dX7_unwinds_72 rfl rfl ?_
            have hsb3 : hs_R (am_sI (am_sI σ1 65 33 (nI H2.length)) 65 34 (nI (o1 - 1))) H2 (o1 - 1) l1 := ⟨(am_ru (by omega) am_rs), hd_cg (fun k _ => am_ru (by omega) (am_ru (by omega) rfl)) hs1.2.1.2, am_rs, (am_ru (by omega) (am_ru (by omega) hs1.2.2.2))⟩
            refine ev_callV (as := [.int c]) (st := []) dX7_unwinds_73 mfX7_puts lk_X7_136 (ly_k (iv_M.sc rfl (iv_M.sc rfl hI1)).ly 65 rfl) (by decide) rfl (c_X7_puts G D A (am_sI (am_sI σ1 65 33 (nI H2.length)) 65 34 (nI (o1 - 1))) H2 l1 (o1 - 1) hA (iv_M.sc rfl (iv_M.sc rfl hI1)) hsb3 hnt (by omega) c) rfl rfl (Nat.le_of_ble_eq_true rfl) (am_hR (by omega) (by decide)) ⟨Nat.le_refl _, Nat.le_refl _⟩ ?_
            rintro _ σ3 ⟨rfl, hI3, hs3, hF3⟩
            refine ev_goto (tgt := 0) dX7_unwinds_76 (by decide) ?_
            refine ev_keep (lv' := [(0, .ref 65), (1, .int r)]) [0, 1] rfl ?_
            exact ih H2 (l1 ++ [c]) (o1 - 1) σ3 (by rw [← hu, uw_hi c1, if_pos hc3]) (by omega) (by rw [List.length_append, List.length_singleton]; omega) hI3 hs3 (fr_P.tr (fr_P.wr (by simp) (fr_P.wr (by simp) hF1)) hF3) (by omega)
          · skip
            refine ev_iload_n dX7_unwinds_56 rfl rfl ?_
            refine ev_bipush (v := 19) dX7_unwinds_57 (by decide) ?_
            refine ev_icmp_ne (tgt := 66) dX7_unwinds_59 (by decide) (fun c4 => ?_) (fun c4 => ?_)
            · skip
              have hc3 : ¬ (c = 13 ∨ c = 19) := fun z => z.elim c2 c4
              refine ev_iconst (v := 0) dX7_unwinds_66 (by decide) ?_
              refine ev_isub (v := nI o1) dX7_unwinds_67 (Int32.sub_zero _) ?_
              refine ev_putI dX7_unwinds_68 fl_X7_133 rfl rfl (ly_k (iv_M.sc rfl hI1).ly 65 rfl) ?_
              refine ev_aload_n dX7_unwinds_71 rfl rfl ?_
              refine ev_iload_n dX7_unwinds_72 rfl rfl ?_
              have hsb5 : hs_R (am_sI (am_sI σ1 65 33 (nI H2.length)) 65 34 (nI o1)) H2 o1 l1 := ⟨(am_ru (by omega) am_rs), hd_cg (fun k _ => am_ru (by omega) (am_ru (by omega) rfl)) hs1.2.1.2, am_rs, (am_ru (by omega) (am_ru (by omega) hs1.2.2.2))⟩
              refine ev_callV (as := [.int c]) (st := []) dX7_unwinds_73 mfX7_puts lk_X7_136 (ly_k (iv_M.sc rfl (iv_M.sc rfl hI1)).ly 65 rfl) (by decide) rfl (c_X7_puts G D A (am_sI (am_sI σ1 65 33 (nI H2.length)) 65 34 (nI o1)) H2 l1 o1 hA (iv_M.sc rfl (iv_M.sc rfl hI1)) hsb5 hnt (by omega) c) rfl rfl (Nat.le_of_ble_eq_true rfl) (am_hR (by omega) (by decide)) ⟨Nat.le_refl _, Nat.le_refl _⟩ ?_
              rintro _ σ5 ⟨rfl, hI5, hs5, hF5⟩
              refine ev_goto (tgt := 0) dX7_unwinds_76 (by decide) ?_
              refine ev_keep (lv' := [(0, .ref 65), (1, .int r)]) [0, 1] rfl ?_
              exact ih H2 (l1 ++ [c]) o1 σ5 (by rw [← hu, uw_hi c1, if_neg hc3]) (by rw [hoc, if_neg (fun z => z.elim (fun z0 => c1 (by rw [z0]; exact hr)) hc3)]; rfl) (by rw [List.length_append, List.length_singleton]; omega) hI5 hs5 (fr_P.tr (fr_P.wr (by simp) (fr_P.wr (by simp) hF1)) hF5) (by omega)
            · skip
              have hc3 : c = 13 ∨ c = 19 := by first | exact Or.inl c4 | exact Or.inr c4
              have ho1p : o1 = oc H2 + 1 := by rw [hoc, if_pos (Or.inr hc3)]
              refine ev_iconst (v := 1) dX7_unwinds_62 (by decide) ?_
              refine ev_goto (tgt := 67) dX7_unwinds_63 (by decide) ?_
              refine ev_isub (v := nI (o1 - 1)) dX7_unwinds_67 (pk_sub (b := 1) (by omega)) ?_
              refine ev_putI dX7_unwinds_68 fl_X7_133 rfl rfl (ly_k (iv_M.sc rfl hI1).ly 65 rfl) ?_
              refine ev_aload_n dX7_unwinds_71 rfl rfl ?_
              refine ev_iload_n dX7_unwinds_72 rfl rfl ?_
              have hsb6 : hs_R (am_sI (am_sI σ1 65 33 (nI H2.length)) 65 34 (nI (o1 - 1))) H2 (o1 - 1) l1 := ⟨(am_ru (by omega) am_rs), hd_cg (fun k _ => am_ru (by omega) (am_ru (by omega) rfl)) hs1.2.1.2, am_rs, (am_ru (by omega) (am_ru (by omega) hs1.2.2.2))⟩
              refine ev_callV (as := [.int c]) (st := []) dX7_unwinds_73 mfX7_puts lk_X7_136 (ly_k (iv_M.sc rfl (iv_M.sc rfl hI1)).ly 65 rfl) (by decide) rfl (c_X7_puts G D A (am_sI (am_sI σ1 65 33 (nI H2.length)) 65 34 (nI (o1 - 1))) H2 l1 (o1 - 1) hA (iv_M.sc rfl (iv_M.sc rfl hI1)) hsb6 hnt (by omega) c) rfl rfl (Nat.le_of_ble_eq_true rfl) (am_hR (by omega) (by decide)) ⟨Nat.le_refl _, Nat.le_refl _⟩ ?_
              rintro _ σ6 ⟨rfl, hI6, hs6, hF6⟩
              refine ev_goto (tgt := 0) dX7_unwinds_76 (by decide) ?_
              refine ev_keep (lv' := [(0, .ref 65), (1, .int r)]) [0, 1] rfl ?_
              exact ih H2 (l1 ++ [c]) (o1 - 1) σ6 (by rw [← hu, uw_hi c1, if_pos hc3]) (by omega) (by rw [List.length_append, List.length_singleton]; omega) hI6 hs6 (fr_P.tr (fr_P.wr (by simp) (fr_P.wr (by simp) hF1)) hF6) (by omega)
  exact lp _ H l o σ rfl ho hln hI hs fr_P.rf (Nat.lt_succ_self _)

