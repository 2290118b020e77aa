/-! the reference: who joins, who leaves -/
set_option maxHeartbeats 400000 in
set_option maxRecDepth 100000 in
theorem c_X7_join (G : am_G) (D : Nat) (A : am_S) (σ : am_M) (hA : wf_A A) (hI : iv_M A σ) (t w : Int32) : am_Mt G (D + 10) mX7_join [.ref 65, .int t, .int w] σ 0 0 (am_qM A (.int (sp_join A t w)) σ) := by
  have b7 := wf_np7 hA
  have b8 := wf_nq8 hA
  have b6 := wf_nt6 hA
  have b61 := wf_nt1 hA
  have b160 := wf_tp160 hA
  have brl := wf_rlt hA
  refine am_of moX7_join (Nat.le_of_ble_eq_true rfl) ?_
  show am_Ev G mX7_join (am_R (D + 10) 0 0) 0 0 (am_qM A (.int (sp_join A t w)) σ) 0 [(0, .ref 65), (1, .int t), (2, .int w)] [] σ 0 0
  refine ev_iload_n dX7_join_0 rfl rfl ?_
  refine ev_callS (as := [.int t]) (st := []) dX7_join_1 mfX7_isTable lk_X7_183 (c_X7_isTable G (D + 8) σ t) rfl rfl (Nat.le_of_ble_eq_true rfl) (am_hR (by omega) (by decide)) ⟨Nat.le_refl _, Nat.le_refl _⟩ ?_
  rintro _ _ (⟨⟨j1, h1, rfl⟩, rfl, rfl⟩ | ⟨h1, rfl, rfl⟩)
  · skip
    refine ev_if_ne (tgt := 10) dX7_join_4 (by decide) (fun _ => ?_) (fun c => absurd c (by decide))
    refine ev_iload_n dX7_join_10 rfl rfl ?_
    refine ev_iconst (v := 0) dX7_join_11 (by decide) ?_
    refine ev_iconst (v := 1) dX7_join_12 (by decide) ?_
    refine ev_callS (as := [.int w, .int 0, .int 1]) (st := []) dX7_join_13 mfX7_in lk_X7_90 (c_X7_in G (D + 9) σ w 0 1) rfl rfl (Nat.le_of_ble_eq_true rfl) (am_hR (by omega) (by decide)) ⟨Nat.le_refl _, Nat.le_refl _⟩ ?_
    rintro _ _ (⟨h2, rfl, rfl⟩ | ⟨h2, rfl, rfl⟩)
    · skip
      rcases am_v1 h2 with rfl | rfl
      · skip
        refine ev_if_ne (tgt := 22) dX7_join_16 (by decide) (fun _ => ?_) (fun c => absurd c (by decide))
        refine ev_iconst (v := (-1)) dX7_join_22 (by decide) ?_
        refine ev_istore_n (lv' := [(0, .ref 65), (1, .int (nI j1)), (2, .int 0), (3, .int (-1))]) dX7_join_23 rfl (by decide) rfl ?_
        refine ev_aload_n dX7_join_24 rfl rfl ?_
        refine ev_iload_n dX7_join_25 rfl rfl ?_
        refine ev_callV (as := [.int (nI j1)]) (st := []) dX7_join_26 mfX7_scoreNow lk_X7_217 (ly_k hI.ly 65 rfl) (by decide) rfl (c_X7_scoreNow G (D + 1) A σ hA hI j1 (by omega)) rfl rfl (Nat.le_of_ble_eq_true rfl) (am_hR (by omega) (by decide)) ⟨Nat.le_refl _, Nat.le_refl _⟩ ?_
        rintro _ σ3 ⟨rfl, hI3, hF3⟩
        refine ev_istore (lv' := [(0, .ref 65), (1, .int (nI j1)), (2, .int 0), (3, .int (-1)), (4, .int (s_now A j1))]) dX7_join_29 (by decide) rfl ?_
        refine ev_iconst (v := 0) dX7_join_31 (by decide) ?_
        refine ev_istore (lv' := [(0, .ref 65), (1, .int (nI j1)), (2, .int 0), (3, .int (-1)), (4, .int (s_now A j1)), (5, .int 0)]) dX7_join_32 (by decide) rfl ?_
        have lp : ∀ (f : Nat) (p : Nat) (best : Int32) (most : Int32) (σ1 : am_M), (p ≤ s_np A) → (best = s_bi (s_jo A j1 p).1) → (most = (s_jo A j1 p).2) → (iv_M A σ1) → (fr_M σ σ1) → s_np A - p < f → am_Ev G mX7_join (am_R (D + 10) 0 0) 0 0 (am_qM A (.int (sp_join A (nI j1) 0)) σ) 34 [(0, .ref 65), (1, .int (nI j1)), (2, .int 0), (3, .int best), (4, .int most), (5, .int (nI p))] [] σ1 0 0 := by
          intro f
          induction f with
          | zero => intro p best most σ1 hp hb hm hI hF hf; exact absurd hf (Nat.not_lt_zero _)
          | succ f ih =>
            intro p best most σ1 hp hb hm hI hF hf
            refine ev_iload dX7_join_34 rfl ?_
            refine ev_aload_n dX7_join_36 rfl rfl ?_
            refine ev_getI (v := nI (s_np A)) dX7_join_37 fl_X7_87 (ly_k hI.ly 65 rfl) ((hI.rd 65 0 rfl).trans (wf_np hA)) ?_
            refine ev_icmp_ge (tgt := 105) dX7_join_40 (by decide) (fun c4 => ?_) (fun c4 => ?_)
            · skip
              have c4n : (s_np A) ≤ p := (nI_leI (a := (s_np A)) (b := p) (by omega) (by omega)).mp c4
              refine ev_iload_n dX7_join_105 rfl rfl ?_
              refine ev_if_ne (tgt := 113) dX7_join_106 (by decide) (fun c => absurd (by decide) c) (fun _ => ?_)
              refine ev_iload_n dX7_join_109 rfl rfl ?_
              refine ev_goto (tgt := 115) dX7_join_110 (by decide) ?_
              refine ev_reti dX7_join_115 rfl (Nat.zero_le _) (Nat.zero_le _) ?_
              have e : p = s_np A := by omega
              subst e
              refine ⟨?_, hI, hF⟩
              rw [hb]
              simp [sp_join, am_inN h1 (by omega), sN_n (show j1 < 2 ^ 31 by omega)]
            · skip
              have c4n : ¬ (s_np A) ≤ p := fun zz => c4 ((nI_leI (a := (s_np A)) (b := p) (by omega) (by omega)).mpr zz)
              refine ev_aload_n dX7_join_43 rfl rfl ?_
              refine ev_getR (b := 69) dX7_join_44 fl_X7_19 (ly_k hI.ly 65 rfl) (ly_r hI.ly 32 rfl) ?_
              refine ev_iload dX7_join_47 rfl ?_
              refine ev_iald (v := A 69 p) dX7_join_49 (ly_k hI.ly 69 rfl) (am_ixn (by omega) (by decide)) (hI.rd 69 p rfl) ?_
              refine ev_iload_n dX7_join_50 rfl rfl ?_
              refine ev_icmp_ne (tgt := 59) dX7_join_51 (by decide) (fun c5 => ?_) (fun c5 => ?_)
              · skip
                have hs : s_se A j1 p = false := decide_eq_false c5
                refine ev_aload_n dX7_join_59 rfl rfl ?_
                refine ev_iload_n dX7_join_60 rfl rfl ?_
                refine ev_iload dX7_join_61 rfl ?_
                refine ev_iload_n dX7_join_63 rfl rfl ?_
                refine ev_callV (as := [.int (nI j1), .int (nI p), .int (nI j1)]) (st := []) dX7_join_64 mfX7_scoreWith lk_X7_232 (ly_k hI.ly 65 rfl) (by decide) rfl (c_X7_scoreWith G D A σ1 hA hI j1 p (nI j1) (by omega) (by omega) (Or.inr ⟨_, by omega, rfl⟩)) rfl rfl (Nat.le_of_ble_eq_true rfl) (am_hR (by omega) (by decide)) ⟨Nat.le_refl _, Nat.le_refl _⟩ ?_
                rintro _ σ6 ⟨rfl, hI6, hF6⟩
                refine ev_istore (lv' := [(0, .ref 65), (1, .int (nI j1)), (2, .int 0), (3, .int best), (4, .int most), (5, .int (nI p)), (6, .int (s_wi A j1 p (nI j1)))]) dX7_join_67 (by decide) rfl ?_
                refine ev_iload dX7_join_69 rfl ?_
                refine ev_iload dX7_join_71 rfl ?_
                refine ev_icmp_le (tgt := 81) dX7_join_73 (by decide) (fun c7 => ?_) (fun c7 => ?_)
                · skip
                  have hlt : ¬ (s_jo A j1 p).2 < s_wi A j1 p (nI j1) := by rw [← hm]; exact Int32.not_lt.mpr c7
                  refine ev_iload_n dX7_join_81 rfl rfl ?_
                  refine ev_istore_n (lv' := [(0, .ref 65), (1, .int (nI j1)), (2, .int 0), (3, .int best), (4, .int most), (5, .int (nI p)), (6, .int (s_wi A j1 p (nI j1)))]) dX7_join_82 rfl (by decide) rfl ?_
                  refine ev_iload dX7_join_83 rfl ?_
                  refine ev_iload dX7_join_85 rfl ?_
                  refine ev_icmp_le (tgt := 95) dX7_join_87 (by decide) (fun _ => ?_) (fun c => absurd (Int32.not_lt.mp (by rw [hm]; exact hlt)) c)
                  refine ev_iload dX7_join_95 rfl ?_
                  refine ev_istore (lv' := [(0, .ref 65), (1, .int (nI j1)), (2, .int 0), (3, .int best), (4, .int most), (5, .int (nI p)), (6, .int (s_wi A j1 p (nI j1)))]) dX7_join_97 (by decide) rfl ?_
                  refine ev_iinc (lv' := [(0, .ref 65), (1, .int (nI j1)), (2, .int 0), (3, .int best), (4, .int most), (5, .int (nI (p + 1))), (6, .int (s_wi A j1 p (nI j1)))]) (v := nI (p + 1)) dX7_join_99 rfl (nI_1 _) (by decide) rfl ?_
                  refine ev_goto (tgt := 34) dX7_join_102 (by decide) ?_
                  refine ev_keep (lv' := [(0, .ref 65), (1, .int (nI j1)), (2, .int 0), (3, .int best), (4, .int most), (5, .int (nI (p + 1)))]) [0, 1, 2, 3, 4, 5] rfl ?_
                  exact ih (p + 1) best most σ6 (by omega) (by rw [s_joK hs hlt]; exact hb) (by rw [s_joK hs hlt]; exact hm) hI6 (fr_M.tr hF hF6) (by omega)
                · skip
                  have hlt : (s_jo A j1 p).2 < s_wi A j1 p (nI j1) := by rw [← hm]; exact Int32.not_le.mp c7
                  refine ev_iload dX7_join_76 rfl ?_
                  refine ev_goto (tgt := 82) dX7_join_78 (by decide) ?_
                  refine ev_istore_n (lv' := [(0, .ref 65), (1, .int (nI j1)), (2, .int 0), (3, .int (nI p)), (4, .int most), (5, .int (nI p)), (6, .int (s_wi A j1 p (nI j1)))]) dX7_join_82 rfl (by decide) rfl ?_
                  refine ev_iload dX7_join_83 rfl ?_
                  refine ev_iload dX7_join_85 rfl ?_
                  refine ev_icmp_le (tgt := 95) dX7_join_87 (by decide) (fun c => absurd c (Int32.not_le.mpr (by rw [hm]; exact hlt))) (fun _ => ?_)
                  refine ev_iload dX7_join_90 rfl ?_
                  refine ev_goto (tgt := 97) dX7_join_92 (by decide) ?_
                  refine ev_istore (lv' := [(0, .ref 65), (1, .int (nI j1)), (2, .int 0), (3, .int (nI p)), (4, .int (s_wi A j1 p (nI j1))), (5, .int (nI p)), (6, .int (s_wi A j1 p (nI j1)))]) dX7_join_97 (by decide) rfl ?_
                  refine ev_iinc (lv' := [(0, .ref 65), (1, .int (nI j1)), (2, .int 0), (3, .int (nI p)), (4, .int (s_wi A j1 p (nI j1))), (5, .int (nI (p + 1))), (6, .int (s_wi A j1 p (nI j1)))]) (v := nI (p + 1)) dX7_join_99 rfl (nI_1 _) (by decide) rfl ?_
                  refine ev_goto (tgt := 34) dX7_join_102 (by decide) ?_
                  refine ev_keep (lv' := [(0, .ref 65), (1, .int (nI j1)), (2, .int 0), (3, .int (nI p)), (4, .int (s_wi A j1 p (nI j1))), (5, .int (nI (p + 1)))]) [0, 1, 2, 3, 4, 5] rfl ?_
                  exact ih (p + 1) (nI p) (s_wi A j1 p (nI j1)) σ6 (by omega) (by rw [s_joS hs hlt]; rfl) (by rw [s_joS hs hlt]) hI6 (fr_M.tr hF hF6) (by omega)
              · skip
                have hs : s_se A j1 p = true := decide_eq_true c5
                refine ev_iload dX7_join_54 rfl ?_
                refine ev_goto (tgt := 67) dX7_join_56 (by decide) ?_
                refine ev_istore (lv' := [(0, .ref 65), (1, .int (nI j1)), (2, .int 0), (3, .int best), (4, .int most), (5, .int (nI p)), (6, .int most)]) dX7_join_67 (by decide) rfl ?_
                refine ev_iload dX7_join_69 rfl ?_
                refine ev_iload dX7_join_71 rfl ?_
                refine ev_icmp_le (tgt := 81) dX7_join_73 (by decide) (fun _ => ?_) (fun c => absurd (Int32.le_refl _) c)
                refine ev_iload_n dX7_join_81 rfl rfl ?_
                refine ev_istore_n (lv' := [(0, .ref 65), (1, .int (nI j1)), (2, .int 0), (3, .int best), (4, .int most), (5, .int (nI p)), (6, .int most)]) dX7_join_82 rfl (by decide) rfl ?_
                refine ev_iload dX7_join_83 rfl ?_
                refine ev_iload dX7_join_85 rfl ?_
                refine ev_icmp_le (tgt := 95) dX7_join_87 (by decide) (fun _ => ?_) (fun c => absurd (Int32.le_refl _) c)
                refine ev_iload dX7_join_95 rfl ?_
                refine ev_istore (lv' := [(0, .ref 65), (1, .int (nI j1)), (2, .int 0), (3, .int best), (4, .int most), (5, .int (nI p)), (6, .int most)]) dX7_join_97 (by decide) rfl ?_
                refine ev_iinc (lv' := [(0, .ref 65), (1, .int (nI j1)), (2, .int 0), (3, .int best), (4, .int most), (5, .int (nI (p + 1))), (6, .int most)]) (v := nI (p + 1)) dX7_join_99 rfl (nI_1 _) (by decide) rfl ?_
                refine ev_goto (tgt := 34) dX7_join_102 (by decide) ?_
                refine ev_keep (lv' := [(0, .ref 65), (1, .int (nI j1)), (2, .int 0), (3, .int best), (4, .int most), (5, .int (nI (p + 1)))]) [0, 1, 2, 3, 4, 5] rfl ?_
                exact ih (p + 1) best most σ1 (by omega) (by rw [s_joE hs]; exact hb) (by rw [s_joE hs]; exact hm) hI hF (by omega)
        exact lp _ 0 (-1) (s_now A j1) σ3 (Nat.zero_le _) rfl rfl hI3 (fr_M.tr fr_M.rf hF3) (Nat.lt_succ_self _)
      · skip
        refine ev_if_ne (tgt := 22) dX7_join_16 (by decide) (fun _ => ?_) (fun c => absurd c (by decide))
        refine ev_iconst (v := (-1)) dX7_join_22 (by decide) ?_
        refine ev_istore_n (lv' := [(0, .ref 65), (1, .int (nI j1)), (2, .int 1), (3, .int (-1))]) dX7_join_23 rfl (by decide) rfl ?_
        refine ev_aload_n dX7_join_24 rfl rfl ?_
        refine ev_iload_n dX7_join_25 rfl rfl ?_
        refine ev_callV (as := [.int (nI j1)]) (st := []) dX7_join_26 mfX7_scoreNow lk_X7_217 (ly_k hI.ly 65 rfl) (by decide) rfl (c_X7_scoreNow G (D + 1) A σ hA hI j1 (by omega)) rfl rfl (Nat.le_of_ble_eq_true rfl) (am_hR (by omega) (by decide)) ⟨Nat.le_refl _, Nat.le_refl _⟩ ?_
        rintro _ σ8 ⟨rfl, hI8, hF8⟩
        refine ev_istore (lv' := [(0, .ref 65), (1, .int (nI j1)), (2, .int 1), (3, .int (-1)), (4, .int (s_now A j1))]) dX7_join_29 (by decide) rfl ?_
        refine ev_iconst (v := 0) dX7_join_31 (by decide) ?_
        refine ev_istore (lv' := [(0, .ref 65), (1, .int (nI j1)), (2, .int 1), (3, .int (-1)), (4, .int (s_now A j1)), (5, .int 0)]) dX7_join_32 (by decide) rfl ?_
        have lp : ∀ (f : Nat) (p : Nat) (best : Int32) (most : Int32) (σ1 : am_M), (p ≤ s_np A) → (best = s_bi (s_jo A j1 p).1) → (most = (s_jo A j1 p).2) → (iv_M A σ1) → (fr_M σ σ1) → s_np A - p < f → am_Ev G mX7_join (am_R (D + 10) 0 0) 0 0 (am_qM A (.int (sp_join A (nI j1) 1)) σ) 34 [(0, .ref 65), (1, .int (nI j1)), (2, .int 1), (3, .int best), (4, .int most), (5, .int (nI p))] [] σ1 0 0 := by
          intro f
          induction f with
          | zero => intro p best most σ1 hp hb hm hI hF hf; exact absurd hf (Nat.not_lt_zero _)
          | succ f ih =>
            intro p best most σ1 hp hb hm hI hF hf
            refine ev_iload dX7_join_34 rfl ?_
            refine ev_aload_n dX7_join_36 rfl rfl ?_
            refine ev_getI (v := nI (s_np A)) dX7_join_37 fl_X7_87 (ly_k hI.ly 65 rfl) ((hI.rd 65 0 rfl).trans (wf_np hA)) ?_
            refine ev_icmp_ge (tgt := 105) dX7_join_40 (by decide) (fun c9 => ?_) (fun c9 => ?_)
            · skip
              have c9n : (s_np A) ≤ p := (nI_leI (a := (s_np A)) (b := p) (by omega) (by omega)).mp c9
              refine ev_iload_n dX7_join_105 rfl rfl ?_
              refine ev_if_ne (tgt := 113) dX7_join_106 (by decide) (fun _ => ?_) (fun c => absurd c (by decide))
              refine ev_iload dX7_join_113 rfl ?_
              refine ev_reti dX7_join_115 rfl (Nat.zero_le _) (Nat.zero_le _) ?_
              have e : p = s_np A := by omega
              subst e
              refine ⟨?_, hI, hF⟩
              rw [hm]
              simp [sp_join, am_inN h1 (by omega), sN_n (show j1 < 2 ^ 31 by omega)]
            · skip
              have c9n : ¬ (s_np A) ≤ p := fun zz => c9 ((nI_leI (a := (s_np A)) (b := p) (by omega) (by omega)).mpr zz)
              refine ev_aload_n dX7_join_43 rfl rfl ?_
              refine ev_getR (b := 69) dX7_join_44 fl_X7_19 (ly_k hI.ly 65 rfl) (ly_r hI.ly 32 rfl) ?_
              refine ev_iload dX7_join_47 rfl ?_
              refine ev_iald (v := A 69 p) dX7_join_49 (ly_k hI.ly 69 rfl) (am_ixn (by omega) (by decide)) (hI.rd 69 p rfl) ?_
              refine ev_iload_n dX7_join_50 rfl rfl ?_
              refine ev_icmp_ne (tgt := 59) dX7_join_51 (by decide) (fun c10 => ?_) (fun c10 => ?_)
              · skip
                have hs : s_se A j1 p = false := decide_eq_false c10
                refine ev_aload_n dX7_join_59 rfl rfl ?_
                refine ev_iload_n dX7_join_60 rfl rfl ?_
                refine ev_iload dX7_join_61 rfl ?_
                refine ev_iload_n dX7_join_63 rfl rfl ?_
                refine ev_callV (as := [.int (nI j1), .int (nI p), .int (nI j1)]) (st := []) dX7_join_64 mfX7_scoreWith lk_X7_232 (ly_k hI.ly 65 rfl) (by decide) rfl (c_X7_scoreWith G D A σ1 hA hI j1 p (nI j1) (by omega) (by omega) (Or.inr ⟨_, by omega, rfl⟩)) rfl rfl (Nat.le_of_ble_eq_true rfl) (am_hR (by omega) (by decide)) ⟨Nat.le_refl _, Nat.le_refl _⟩ ?_
                rintro _ σ11 ⟨rfl, hI11, hF11⟩
                refine ev_istore (lv' := [(0, .ref 65), (1, .int (nI j1)), (2, .int 1), (3, .int best), (4, .int most), (5, .int (nI p)), (6, .int (s_wi A j1 p (nI j1)))]) dX7_join_67 (by decide) rfl ?_
                refine ev_iload dX7_join_69 rfl ?_
                refine ev_iload dX7_join_71 rfl ?_
                refine ev_icmp_le (tgt := 81) dX7_join_73 (by decide) (fun c12 => ?_) (fun c12 => ?_)
                · skip
                  have hlt : ¬ (s_jo A j1 p).2 < s_wi A j1 p (nI j1) := by rw [← hm]; exact Int32.not_lt.mpr c12
                  refine ev_iload_n dX7_join_81 rfl rfl ?_
                  refine ev_istore_n (lv' := [(0, .ref 65), (1, .int (nI j1)), (2, .int 1), (3, .int best), (4, .int most), (5, .int (nI p)), (6, .int (s_wi A j1 p (nI j1)))]) dX7_join_82 rfl (by decide) rfl ?_
                  refine ev_iload dX7_join_83 rfl ?_
                  refine ev_iload dX7_join_85 rfl ?_
                  refine ev_icmp_le (tgt := 95) dX7_join_87 (by decide) (fun _ => ?_) (fun c => absurd (Int32.not_lt.mp (by rw [hm]; exact hlt)) c)
                  refine ev_iload dX7_join_95 rfl ?_
                  refine ev_istore (lv' := [(0, .ref 65), (1, .int (nI j1)), (2, .int 1), (3, .int best), (4, .int most), (5, .int (nI p)), (6, .int (s_wi A j1 p (nI j1)))]) dX7_join_97 (by decide) rfl ?_
                  refine ev_iinc (lv' := [(0, .ref 65), (1, .int (nI j1)), (2, .int 1), (3, .int best), (4, .int most), (5, .int (nI (p + 1))), (6, .int (s_wi A j1 p (nI j1)))]) (v := nI (p + 1)) dX7_join_99 rfl (nI_1 _) (by decide) rfl ?_
                  refine ev_goto (tgt := 34) dX7_join_102 (by decide) ?_
                  refine ev_keep (lv' := [(0, .ref 65), (1, .int (nI j1)), (2, .int 1), (3, .int best), (4, .int most), (5, .int (nI (p + 1)))]) [0, 1, 2, 3, 4, 5] rfl ?_
                  exact ih (p + 1) best most σ11 (by omega) (by rw [s_joK hs hlt]; exact hb) (by rw [s_joK hs hlt]; exact hm) hI11 (fr_M.tr hF hF11) (by omega)
                · skip
                  have hlt : (s_jo A j1 p).2 < s_wi A j1 p (nI j1) := by rw [← hm]; exact Int32.not_le.mp c12
                  refine ev_iload dX7_join_76 rfl ?_
                  refine ev_goto (tgt := 82) dX7_join_78 (by decide) ?_
                  refine ev_istore_n (lv' := [(0, .ref 65), (1, .int (nI j1)), (2, .int 1), (3, .int (nI p)), (4, .int most), (5, .int (nI p)), (6, .int (s_wi A j1 p (nI j1)))]) dX7_join_82 rfl (by decide) rfl ?_
                  refine ev_iload dX7_join_83 rfl ?_
                  refine ev_iload dX7_join_85 rfl ?_
                  refine ev_icmp_le (tgt := 95) dX7_join_87 (by decide) (fun c => absurd c (Int32.not_le.mpr (by rw [hm]; exact hlt))) (fun _ => ?_)
                  refine ev_iload dX7_join_90 rfl ?_
                  refine ev_goto (tgt := 97) dX7_join_92 (by decide) ?_
                  refine ev_istore (lv' := [(0, .ref 65), (1, .int (nI j1)), (2, .int 1), (3, .int (nI p)), (4, .int (s_wi A j1 p (nI j1))), (5, .int (nI p)), (6, .int (s_wi A j1 p (nI j1)))]) dX7_join_97 (by decide) rfl ?_
                  refine ev_iinc (lv' := [(0, .ref 65), (1, .int (nI j1)), (2, .int 1), (3, .int (nI p)), (4, .int (s_wi A j1 p (nI j1))), (5, .int (nI (p + 1))), (6, .int (s_wi A j1 p (nI j1)))]) (v := nI (p + 1)) dX7_join_99 rfl (nI_1 _) (by decide) rfl ?_
                  refine ev_goto (tgt := 34) dX7_join_102 (by decide) ?_
                  refine ev_keep (lv' := [(0, .ref 65), (1, .int (nI j1)), (2, .int 1), (3, .int (nI p)), (4, .int (s_wi A j1 p (nI j1))), (5, .int (nI (p + 1)))]) [0, 1, 2, 3, 4, 5] rfl ?_
                  exact ih (p + 1) (nI p) (s_wi A j1 p (nI j1)) σ11 (by omega) (by rw [s_joS hs hlt]; rfl) (by rw [s_joS hs hlt]) hI11 (fr_M.tr hF hF11) (by omega)
              · skip
                have hs : s_se A j1 p = true := decide_eq_true c10
                refine ev_iload dX7_join_54 rfl ?_
                refine ev_goto (tgt := 67) dX7_join_56 (by decide) ?_
                refine ev_istore (lv' := [(0, .ref 65), (1, .int (nI j1)), (2, .int 1), (3, .int best), (4, .int most), (5, .int (nI p)), (6, .int most)]) dX7_join_67 (by decide) rfl ?_
                refine ev_iload dX7_join_69 rfl ?_
                refine ev_iload dX7_join_71 rfl ?_
                refine ev_icmp_le (tgt := 81) dX7_join_73 (by decide) (fun _ => ?_) (fun c => absurd (Int32.le_refl _) c)
                refine ev_iload_n dX7_join_81 rfl rfl ?_
                refine ev_istore_n (lv' := [(0, .ref 65), (1, .int (nI j1)), (2, .int 1), (3, .int best), (4, .int most), (5, .int (nI p)), (6, .int most)]) dX7_join_82 rfl (by decide) rfl ?_
                refine ev_iload dX7_join_83 rfl ?_
                refine ev_iload dX7_join_85 rfl ?_
                refine ev_icmp_le (tgt := 95) dX7_join_87 (by decide) (fun _ => ?_) (fun c => absurd (Int32.le_refl _) c)
                refine ev_iload dX7_join_95 rfl ?_
                refine ev_istore (lv' := [(0, .ref 65), (1, .int (nI j1)), (2, .int 1), (3, .int best), (4, .int most), (5, .int (nI p)), (6, .int most)]) dX7_join_97 (by decide) rfl ?_
                refine ev_iinc (lv' := [(0, .ref 65), (1, .int (nI j1)), (2, .int 1), (3, .int best), (4, .int most), (5, .int (nI (p + 1))), (6, .int most)]) (v := nI (p + 1)) dX7_join_99 rfl (nI_1 _) (by decide) rfl ?_
                refine ev_goto (tgt := 34) dX7_join_102 (by decide) ?_
                refine ev_keep (lv' := [(0, .ref 65), (1, .int (nI j1)), (2, .int 1), (3, .int best), (4, .int most), (5, .int (nI (p + 1)))]) [0, 1, 2, 3, 4, 5] rfl ?_
                exact ih (p + 1) best most σ1 (by omega) (by rw [s_joE hs]; exact hb) (by rw [s_joE hs]; exact hm) hI hF (by omega)
        exact lp _ 0 (-1) (s_now A j1) σ8 (Nat.zero_le _) rfl rfl hI8 (fr_M.tr fr_M.rf hF8) (Nat.lt_succ_self _)
    · skip
      have h2r := fun q => h2 ((am_rgl (n := 2) (by decide)).mpr q)
      have hw0 := am_w1 h2r
      refine ev_if_ne (tgt := 22) dX7_join_16 (by decide) (fun c => absurd (by decide) c) (fun _ => ?_)
      refine ev_bipush (v := (-7)) dX7_join_19 (by decide) ?_
      refine ev_reti dX7_join_21 rfl (Nat.zero_le _) (Nat.zero_le _) ?_
      refine ⟨?_, hI, fr_M.rf⟩
      simp [sp_join, am_inN h1 (by omega), sN_n (show j1 < 2 ^ 31 by omega), hw0]
  · skip
    refine ev_if_ne (tgt := 10) dX7_join_4 (by decide) (fun c => absurd (by decide) c) (fun _ => ?_)
    refine ev_bipush (v := (-5)) dX7_join_7 (by decide) ?_
    refine ev_reti dX7_join_9 rfl (Nat.zero_le _) (Nat.zero_le _) ?_
    refine ⟨?_, hI, fr_M.rf⟩
    simp [sp_join, am_inF (by omega) h1]

set_option maxHeartbeats 400000 in
set_option maxRecDepth 100000 in
theorem c_X7_leave (G : am_G) (D : Nat) (A : am_S) (σ : am_M) (hA : wf_A A) (hI : iv_M A σ) (t w : Int32) : am_Mt G (D + 10) mX7_leave [.ref 65, .int t, .int w] σ 0 0 (am_qM A (.int (sp_leave A t w)) σ) := by
  have b7 := wf_np7 hA
  have b8 := wf_nq8 hA
  have b6 := wf_nt6 hA
  have b61 := wf_nt1 hA
  have b160 := wf_tp160 hA
  have brl := wf_rlt hA
  refine am_of moX7_leave (Nat.le_of_ble_eq_true rfl) ?_
  show am_Ev G mX7_leave (am_R (D + 10) 0 0) 0 0 (am_qM A (.int (sp_leave A t w)) σ) 0 [(0, .ref 65), (1, .int t), (2, .int w)] [] σ 0 0
  refine ev_iload_n dX7_leave_0 rfl rfl ?_
  refine ev_callS (as := [.int t]) (st := []) dX7_leave_1 mfX7_isTable lk_X7_183 (c_X7_isTable G (D + 8) σ t) rfl rfl (Nat.le_of_ble_eq_true rfl) (am_hR (by omega) (by decide)) ⟨Nat.le_refl _, Nat.le_refl _⟩ ?_
  rintro _ _ (⟨⟨j1, h1, rfl⟩, rfl, rfl⟩ | ⟨h1, rfl, rfl⟩)
  · skip
    refine ev_if_ne (tgt := 10) dX7_leave_4 (by decide) (fun _ => ?_) (fun c => absurd c (by decide))
    refine ev_iload_n dX7_leave_10 rfl rfl ?_
    refine ev_iconst (v := 0) dX7_leave_11 (by decide) ?_
    refine ev_iconst (v := 1) dX7_leave_12 (by decide) ?_
    refine ev_callS (as := [.int w, .int 0, .int 1]) (st := []) dX7_leave_13 mfX7_in lk_X7_90 (c_X7_in G (D + 9) σ w 0 1) rfl rfl (Nat.le_of_ble_eq_true rfl) (am_hR (by omega) (by decide)) ⟨Nat.le_refl _, Nat.le_refl _⟩ ?_
    rintro _ _ (⟨h2, rfl, rfl⟩ | ⟨h2, rfl, rfl⟩)
    · skip
      rcases am_v1 h2 with rfl | rfl
      · skip
        refine ev_if_ne (tgt := 22) dX7_leave_16 (by decide) (fun _ => ?_) (fun c => absurd c (by decide))
        refine ev_aload_n dX7_leave_22 rfl rfl ?_
        refine ev_iload_n dX7_leave_23 rfl rfl ?_
        refine ev_callV (as := [.int (nI j1)]) (st := []) dX7_leave_24 mfX7_scoreNow lk_X7_217 (ly_k hI.ly 65 rfl) (by decide) rfl (c_X7_scoreNow G (D + 1) A σ hA hI j1 (by omega)) rfl rfl (Nat.le_of_ble_eq_true rfl) (am_hR (by omega) (by decide)) ⟨Nat.le_refl _, Nat.le_refl _⟩ ?_
        rintro _ σ3 ⟨rfl, hI3, hF3⟩
        refine ev_istore_n (lv' := [(0, .ref 65), (1, .int (nI j1)), (2, .int 0), (3, .int (s_now A j1))]) dX7_leave_27 rfl (by decide) rfl ?_
        refine ev_iconst (v := 0) dX7_leave_28 (by decide) ?_
        refine ev_istore (lv' := [(0, .ref 65), (1, .int (nI j1)), (2, .int 0), (3, .int (s_now A j1)), (4, .int 0)]) dX7_leave_29 (by decide) rfl ?_
        refine ev_iconst (v := 0) dX7_leave_31 (by decide) ?_
        refine ev_istore (lv' := [(0, .ref 65), (1, .int (nI j1)), (2, .int 0), (3, .int (s_now A j1)), (4, .int 0), (5, .int 0)]) dX7_leave_32 (by decide) rfl ?_
        have lp : ∀ (f : Nat) (p : Nat) (σ1 : am_M), (p ≤ s_np A) → (iv_M A σ1) → (fr_M σ σ1) → s_np A - p < f → am_Ev G mX7_leave (am_R (D + 10) 0 0) 0 0 (am_qM A (.int (sp_leave A (nI j1) 0)) σ) 34 [(0, .ref 65), (1, .int (nI j1)), (2, .int 0), (3, .int (s_now A j1)), (4, .int (nI (mk_m (s_lv A j1 true) p))), (5, .int (nI p))] [] σ1 0 0 := by
          intro f
          induction f with
          | zero => intro p σ1 hp hI hF hf; exact absurd hf (Nat.not_lt_zero _)
          | succ f ih =>
            intro p σ1 hp hI hF hf
            refine ev_iload dX7_leave_34 rfl ?_
            refine ev_aload_n dX7_leave_36 rfl rfl ?_
            refine ev_getI (v := nI (s_np A)) dX7_leave_37 fl_X7_87 (ly_k hI.ly 65 rfl) ((hI.rd 65 0 rfl).trans (wf_np hA)) ?_
            refine ev_icmp_ge (tgt := 117) dX7_leave_40 (by decide) (fun c4 => ?_) (fun c4 => ?_)
            · skip
              have c4n : (s_np A) ≤ p := (nI_leI (a := (s_np A)) (b := p) (by omega) (by omega)).mp c4
              refine ev_iload dX7_leave_117 rfl ?_
              refine ev_reti dX7_leave_119 rfl (Nat.zero_le _) (Nat.zero_le _) ?_
              have e : p = s_np A := by omega
              subst e
              refine ⟨?_, hI, hF⟩
              simp [sp_leave, am_inN h1 (by omega), sN_n (show j1 < 2 ^ 31 by omega)]
            · skip
              have c4n : ¬ (s_np A) ≤ p := fun zz => c4 ((nI_leI (a := (s_np A)) (b := p) (by omega) (by omega)).mpr zz)
              refine ev_aload_n dX7_leave_43 rfl rfl ?_
              refine ev_getR (b := 69) dX7_leave_44 fl_X7_19 (ly_k hI.ly 65 rfl) (ly_r hI.ly 32 rfl) ?_
              refine ev_iload dX7_leave_47 rfl ?_
              refine ev_iald (v := A 69 p) dX7_leave_49 (ly_k hI.ly 69 rfl) (am_ixn (by omega) (by decide)) (hI.rd 69 p rfl) ?_
              refine ev_iload_n dX7_leave_50 rfl rfl ?_
              refine ev_icmp_ne (tgt := 65) dX7_leave_51 (by decide) (fun c5 => ?_) (fun c5 => ?_)
              · skip
                have hs : s_se A j1 p = false := decide_eq_false c5
                refine ev_iconst (v := (-1)) dX7_leave_65 (by decide) ?_
                refine ev_istore (lv' := [(0, .ref 65), (1, .int (nI j1)), (2, .int 0), (3, .int (s_now A j1)), (4, .int (nI (mk_m (s_lv A j1 true) p))), (5, .int (nI p)), (6, .int (-1))]) dX7_leave_66 (by decide) rfl ?_
                refine ev_iload dX7_leave_68 rfl ?_
                refine ev_aload_n dX7_leave_70 rfl rfl ?_
                refine ev_getR (b := 69) dX7_leave_71 fl_X7_19 (ly_k hI.ly 65 rfl) (ly_r hI.ly 32 rfl) ?_
                refine ev_iload dX7_leave_74 rfl ?_
                refine ev_iald (v := A 69 p) dX7_leave_76 (ly_k hI.ly 69 rfl) (am_ixn (by omega) (by decide)) (hI.rd 69 p rfl) ?_
                refine ev_iload_n dX7_leave_77 rfl rfl ?_
                refine ev_icmp_ne (tgt := 107) dX7_leave_78 (by decide) (fun _ => ?_) (fun c => absurd c (of_decide_eq_false hs))
                refine ev_iconst (v := 0) dX7_leave_107 (by decide) ?_
                refine ev_ior (v := nI (mk_m (s_lv A j1 true) (p + 1))) dX7_leave_108 ((mk_0 _).trans (congrArg nI (mk_f (by show (_ && _) = false; rw [hs]; rfl)))) ?_
                refine ev_istore (lv' := [(0, .ref 65), (1, .int (nI j1)), (2, .int 0), (3, .int (s_now A j1)), (4, .int (nI (mk_m (s_lv A j1 true) (p + 1)))), (5, .int (nI p)), (6, .int (-1))]) dX7_leave_109 (by decide) rfl ?_
                refine ev_iinc (lv' := [(0, .ref 65), (1, .int (nI j1)), (2, .int 0), (3, .int (s_now A j1)), (4, .int (nI (mk_m (s_lv A j1 true) (p + 1)))), (5, .int (nI (p + 1))), (6, .int (-1))]) (v := nI (p + 1)) dX7_leave_111 rfl (nI_1 _) (by decide) rfl ?_
                refine ev_goto (tgt := 34) dX7_leave_114 (by decide) ?_
                refine ev_keep (lv' := [(0, .ref 65), (1, .int (nI j1)), (2, .int 0), (3, .int (s_now A j1)), (4, .int (nI (mk_m (s_lv A j1 true) (p + 1)))), (5, .int (nI (p + 1)))]) [0, 1, 2, 3, 4, 5] rfl ?_
                exact ih (p + 1) σ1 (by omega) hI hF (by omega)
              · skip
                have hs : s_se A j1 p = true := decide_eq_true c5
                refine ev_aload_n dX7_leave_54 rfl rfl ?_
                refine ev_iload_n dX7_leave_55 rfl rfl ?_
                refine ev_iload dX7_leave_56 rfl ?_
                refine ev_iconst (v := (-1)) dX7_leave_58 (by decide) ?_
                refine ev_callV (as := [.int (nI j1), .int (nI p), .int (-1)]) (st := []) dX7_leave_59 mfX7_scoreWith lk_X7_232 (ly_k hI.ly 65 rfl) (by decide) rfl (c_X7_scoreWith G D A σ1 hA hI j1 p (-1) (by omega) (by omega) (Or.inl rfl)) rfl rfl (Nat.le_of_ble_eq_true rfl) (am_hR (by omega) (by decide)) ⟨Nat.le_refl _, Nat.le_refl _⟩ ?_
                rintro _ σ6 ⟨rfl, hI6, hF6⟩
                refine ev_goto (tgt := 66) dX7_leave_62 (by decide) ?_
                refine ev_istore (lv' := [(0, .ref 65), (1, .int (nI j1)), (2, .int 0), (3, .int (s_now A j1)), (4, .int (nI (mk_m (s_lv A j1 true) p))), (5, .int (nI p)), (6, .int (s_wi A j1 p (-1)))]) dX7_leave_66 (by decide) rfl ?_
                refine ev_iload dX7_leave_68 rfl ?_
                refine ev_aload_n dX7_leave_70 rfl rfl ?_
                refine ev_getR (b := 69) dX7_leave_71 fl_X7_19 (ly_k hI6.ly 65 rfl) (ly_r hI6.ly 32 rfl) ?_
                refine ev_iload dX7_leave_74 rfl ?_
                refine ev_iald (v := A 69 p) dX7_leave_76 (ly_k hI6.ly 69 rfl) (am_ixn (by omega) (by decide)) (hI6.rd 69 p rfl) ?_
                refine ev_iload_n dX7_leave_77 rfl rfl ?_
                refine ev_icmp_ne (tgt := 107) dX7_leave_78 (by decide) (fun c => absurd (of_decide_eq_true hs) c) (fun _ => ?_)
                refine ev_iload_n dX7_leave_81 rfl rfl ?_
                refine ev_if_ne (tgt := 94) dX7_leave_82 (by decide) (fun c => absurd (by decide) c) (fun _ => ?_)
                refine ev_iload dX7_leave_85 rfl ?_
                refine ev_iload_n dX7_leave_87 rfl rfl ?_
                refine ev_icmp_le (tgt := 107) dX7_leave_88 (by decide) (fun c7 => ?_) (fun c7 => ?_)
                · skip
                  refine ev_iconst (v := 0) dX7_leave_107 (by decide) ?_
                  refine ev_ior (v := nI (mk_m (s_lv A j1 true) (p + 1))) dX7_leave_108 ((mk_0 _).trans (congrArg nI (mk_f (by show (_ && decide _) = false; rw [hs, decide_eq_false (Int32.not_lt.mpr c7)]; rfl)))) ?_
                  refine ev_istore (lv' := [(0, .ref 65), (1, .int (nI j1)), (2, .int 0), (3, .int (s_now A j1)), (4, .int (nI (mk_m (s_lv A j1 true) (p + 1)))), (5, .int (nI p)), (6, .int (s_wi A j1 p (-1)))]) dX7_leave_109 (by decide) rfl ?_
                  refine ev_iinc (lv' := [(0, .ref 65), (1, .int (nI j1)), (2, .int 0), (3, .int (s_now A j1)), (4, .int (nI (mk_m (s_lv A j1 true) (p + 1)))), (5, .int (nI (p + 1))), (6, .int (s_wi A j1 p (-1)))]) (v := nI (p + 1)) dX7_leave_111 rfl (nI_1 _) (by decide) rfl ?_
                  refine ev_goto (tgt := 34) dX7_leave_114 (by decide) ?_
                  refine ev_keep (lv' := [(0, .ref 65), (1, .int (nI j1)), (2, .int 0), (3, .int (s_now A j1)), (4, .int (nI (mk_m (s_lv A j1 true) (p + 1)))), (5, .int (nI (p + 1)))]) [0, 1, 2, 3, 4, 5] rfl ?_
                  exact ih (p + 1) σ6 (by omega) hI6 (fr_M.tr hF hF6) (by omega)
                · skip
                  refine ev_goto (tgt := 100) dX7_leave_91 (by decide) ?_
                  refine ev_iconst (v := 1) dX7_leave_100 (by decide) ?_
                  refine ev_iload dX7_leave_101 rfl ?_
                  refine ev_ishl (v := nI (2 ^ p)) dX7_leave_103 (mk_1s (by omega)) ?_
                  refine ev_goto (tgt := 108) dX7_leave_104 (by decide) ?_
                  refine ev_ior (v := nI (mk_m (s_lv A j1 true) (p + 1))) dX7_leave_108 ((fa_or _ _).trans (congrArg nI (mk_t (by show (_ && decide _) = true; rw [hs, decide_eq_true (Int32.not_le.mp c7)]; rfl)))) ?_
                  refine ev_istore (lv' := [(0, .ref 65), (1, .int (nI j1)), (2, .int 0), (3, .int (s_now A j1)), (4, .int (nI (mk_m (s_lv A j1 true) (p + 1)))), (5, .int (nI p)), (6, .int (s_wi A j1 p (-1)))]) dX7_leave_109 (by decide) rfl ?_
                  refine ev_iinc (lv' := [(0, .ref 65), (1, .int (nI j1)), (2, .int 0), (3, .int (s_now A j1)), (4, .int (nI (mk_m (s_lv A j1 true) (p + 1)))), (5, .int (nI (p + 1))), (6, .int (s_wi A j1 p (-1)))]) (v := nI (p + 1)) dX7_leave_111 rfl (nI_1 _) (by decide) rfl ?_
                  refine ev_goto (tgt := 34) dX7_leave_114 (by decide) ?_
                  refine ev_keep (lv' := [(0, .ref 65), (1, .int (nI j1)), (2, .int 0), (3, .int (s_now A j1)), (4, .int (nI (mk_m (s_lv A j1 true) (p + 1)))), (5, .int (nI (p + 1)))]) [0, 1, 2, 3, 4, 5] rfl ?_
                  exact ih (p + 1) σ6 (by omega) hI6 (fr_M.tr hF hF6) (by omega)
        exact lp _ 0 σ3 (Nat.zero_le _) hI3 (fr_M.tr fr_M.rf hF3) (Nat.lt_succ_self _)
      · skip
        refine ev_if_ne (tgt := 22) dX7_leave_16 (by decide) (fun _ => ?_) (fun c => absurd c (by decide))
        refine ev_aload_n dX7_leave_22 rfl rfl ?_
        refine ev_iload_n dX7_leave_23 rfl rfl ?_
        refine ev_callV (as := [.int (nI j1)]) (st := []) dX7_leave_24 mfX7_scoreNow lk_X7_217 (ly_k hI.ly 65 rfl) (by decide) rfl (c_X7_scoreNow G (D + 1) A σ hA hI j1 (by omega)) rfl rfl (Nat.le_of_ble_eq_true rfl) (am_hR (by omega) (by decide)) ⟨Nat.le_refl _, Nat.le_refl _⟩ ?_
        rintro _ σ8 ⟨rfl, hI8, hF8⟩
        refine ev_istore_n (lv' := [(0, .ref 65), (1, .int (nI j1)), (2, .int 1), (3, .int (s_now A j1))]) dX7_leave_27 rfl (by decide) rfl ?_
        refine ev_iconst (v := 0) dX7_leave_28 (by decide) ?_
        refine ev_istore (lv' := [(0, .ref 65), (1, .int (nI j1)), (2, .int 1), (3, .int (s_now A j1)), (4, .int 0)]) dX7_leave_29 (by decide) rfl ?_
        refine ev_iconst (v := 0) dX7_leave_31 (by decide) ?_
        refine ev_istore (lv' := [(0, .ref 65), (1, .int (nI j1)), (2, .int 1), (3, .int (s_now A j1)), (4, .int 0), (5, .int 0)]) dX7_leave_32 (by decide) rfl ?_
        have lp : ∀ (f : Nat) (p : Nat) (σ1 : am_M), (p ≤ s_np A) → (iv_M A σ1) → (fr_M σ σ1) → s_np A - p < f → am_Ev G mX7_leave (am_R (D + 10) 0 0) 0 0 (am_qM A (.int (sp_leave A (nI j1) 1)) σ) 34 [(0, .ref 65), (1, .int (nI j1)), (2, .int 1), (3, .int (s_now A j1)), (4, .int (nI (mk_m (s_lv A j1 false) p))), (5, .int (nI p))] [] σ1 0 0 := by
          intro f
          induction f with
          | zero => intro p σ1 hp hI hF hf; exact absurd hf (Nat.not_lt_zero _)
          | succ f ih =>
            intro p σ1 hp hI hF hf
            refine ev_iload dX7_leave_34 rfl ?_
            refine ev_aload_n dX7_leave_36 rfl rfl ?_
            refine ev_getI (v := nI (s_np A)) dX7_leave_37 fl_X7_87 (ly_k hI.ly 65 rfl) ((hI.rd 65 0 rfl).trans (wf_np hA)) ?_
            refine ev_icmp_ge (tgt := 117) dX7_leave_40 (by decide) (fun c9 => ?_) (fun c9 => ?_)
            · skip
              have c9n : (s_np A) ≤ p := (nI_leI (a := (s_np A)) (b := p) (by omega) (by omega)).mp c9
              refine ev_iload dX7_leave_117 rfl ?_
              refine ev_reti dX7_leave_119 rfl (Nat.zero_le _) (Nat.zero_le _) ?_
              have e : p = s_np A := by omega
              subst e
              refine ⟨?_, hI, hF⟩
              simp [sp_leave, am_inN h1 (by omega), sN_n (show j1 < 2 ^ 31 by omega)]
            · skip
              have c9n : ¬ (s_np A) ≤ p := fun zz => c9 ((nI_leI (a := (s_np A)) (b := p) (by omega) (by omega)).mpr zz)
              refine ev_aload_n dX7_leave_43 rfl rfl ?_
              refine ev_getR (b := 69) dX7_leave_44 fl_X7_19 (ly_k hI.ly 65 rfl) (ly_r hI.ly 32 rfl) ?_
              refine ev_iload dX7_leave_47 rfl ?_
              refine ev_iald (v := A 69 p) dX7_leave_49 (ly_k hI.ly 69 rfl) (am_ixn (by omega) (by decide)) (hI.rd 69 p rfl) ?_
              refine ev_iload_n dX7_leave_50 rfl rfl ?_
              refine ev_icmp_ne (tgt := 65) dX7_leave_51 (by decide) (fun c10 => ?_) (fun c10 => ?_)
              · skip
                have hs : s_se A j1 p = false := decide_eq_false c10
                refine ev_iconst (v := (-1)) dX7_leave_65 (by decide) ?_
                refine ev_istore (lv' := [(0, .ref 65), (1, .int (nI j1)), (2, .int 1), (3, .int (s_now A j1)), (4, .int (nI (mk_m (s_lv A j1 false) p))), (5, .int (nI p)), (6, .int (-1))]) dX7_leave_66 (by decide) rfl ?_
                refine ev_iload dX7_leave_68 rfl ?_
                refine ev_aload_n dX7_leave_70 rfl rfl ?_
                refine ev_getR (b := 69) dX7_leave_71 fl_X7_19 (ly_k hI.ly 65 rfl) (ly_r hI.ly 32 rfl) ?_
                refine ev_iload dX7_leave_74 rfl ?_
                refine ev_iald (v := A 69 p) dX7_leave_76 (ly_k hI.ly 69 rfl) (am_ixn (by omega) (by decide)) (hI.rd 69 p rfl) ?_
                refine ev_iload_n dX7_leave_77 rfl rfl ?_
                refine ev_icmp_ne (tgt := 107) dX7_leave_78 (by decide) (fun _ => ?_) (fun c => absurd c (of_decide_eq_false hs))
                refine ev_iconst (v := 0) dX7_leave_107 (by decide) ?_
                refine ev_ior (v := nI (mk_m (s_lv A j1 false) (p + 1))) dX7_leave_108 ((mk_0 _).trans (congrArg nI (mk_f (by show (_ && _) = false; rw [hs]; rfl)))) ?_
                refine ev_istore (lv' := [(0, .ref 65), (1, .int (nI j1)), (2, .int 1), (3, .int (s_now A j1)), (4, .int (nI (mk_m (s_lv A j1 false) (p + 1)))), (5, .int (nI p)), (6, .int (-1))]) dX7_leave_109 (by decide) rfl ?_
                refine ev_iinc (lv' := [(0, .ref 65), (1, .int (nI j1)), (2, .int 1), (3, .int (s_now A j1)), (4, .int (nI (mk_m (s_lv A j1 false) (p + 1)))), (5, .int (nI (p + 1))), (6, .int (-1))]) (v := nI (p + 1)) dX7_leave_111 rfl (nI_1 _) (by decide) rfl ?_
                refine ev_goto (tgt := 34) dX7_leave_114 (by decide) ?_
                refine ev_keep (lv' := [(0, .ref 65), (1, .int (nI j1)), (2, .int 1), (3, .int (s_now A j1)), (4, .int (nI (mk_m (s_lv A j1 false) (p + 1)))), (5, .int (nI (p + 1)))]) [0, 1, 2, 3, 4, 5] rfl ?_
                exact ih (p + 1) σ1 (by omega) hI hF (by omega)
              · skip
                have hs : s_se A j1 p = true := decide_eq_true c10
                refine ev_aload_n dX7_leave_54 rfl rfl ?_
                refine ev_iload_n dX7_leave_55 rfl rfl ?_
                refine ev_iload dX7_leave_56 rfl ?_
                refine ev_iconst (v := (-1)) dX7_leave_58 (by decide) ?_
                refine ev_callV (as := [.int (nI j1), .int (nI p), .int (-1)]) (st := []) dX7_leave_59 mfX7_scoreWith lk_X7_232 (ly_k hI.ly 65 rfl) (by decide) rfl (c_X7_scoreWith G D A σ1 hA hI j1 p (-1) (by omega) (by omega) (Or.inl rfl)) rfl rfl (Nat.le_of_ble_eq_true rfl) (am_hR (by omega) (by decide)) ⟨Nat.le_refl _, Nat.le_refl _⟩ ?_
                rintro _ σ11 ⟨rfl, hI11, hF11⟩
                refine ev_goto (tgt := 66) dX7_leave_62 (by decide) ?_
                refine ev_istore (lv' := [(0, .ref 65), (1, .int (nI j1)), (2, .int 1), (3, .int (s_now A j1)), (4, .int (nI (mk_m (s_lv A j1 false) p))), (5, .int (nI p)), (6, .int (s_wi A j1 p (-1)))]) dX7_leave_66 (by decide) rfl ?_
                refine ev_iload dX7_leave_68 rfl ?_
                refine ev_aload_n dX7_leave_70 rfl rfl ?_
                refine ev_getR (b := 69) dX7_leave_71 fl_X7_19 (ly_k hI11.ly 65 rfl) (ly_r hI11.ly 32 rfl) ?_
                refine ev_iload dX7_leave_74 rfl ?_
                refine ev_iald (v := A 69 p) dX7_leave_76 (ly_k hI11.ly 69 rfl) (am_ixn (by omega) (by decide)) (hI11.rd 69 p rfl) ?_
                refine ev_iload_n dX7_leave_77 rfl rfl ?_
                refine ev_icmp_ne (tgt := 107) dX7_leave_78 (by decide) (fun c => absurd (of_decide_eq_true hs) c) (fun _ => ?_)
                refine ev_iload_n dX7_leave_81 rfl rfl ?_
                refine ev_if_ne (tgt := 94) dX7_leave_82 (by decide) (fun _ => ?_) (fun c => absurd c (by decide))
                refine ev_iload dX7_leave_94 rfl ?_
                refine ev_iload_n dX7_leave_96 rfl rfl ?_
                refine ev_icmp_lt (tgt := 107) dX7_leave_97 (by decide) (fun c12 => ?_) (fun c12 => ?_)
                · skip
                  refine ev_iconst (v := 0) dX7_leave_107 (by decide) ?_
                  refine ev_ior (v := nI (mk_m (s_lv A j1 false) (p + 1))) dX7_leave_108 ((mk_0 _).trans (congrArg nI (mk_f (by show (_ && decide _) = false; rw [hs, decide_eq_false (Int32.not_le.mpr c12)]; rfl)))) ?_
                  refine ev_istore (lv' := [(0, .ref 65), (1, .int (nI j1)), (2, .int 1), (3, .int (s_now A j1)), (4, .int (nI (mk_m (s_lv A j1 false) (p + 1)))), (5, .int (nI p)), (6, .int (s_wi A j1 p (-1)))]) dX7_leave_109 (by decide) rfl ?_
                  refine ev_iinc (lv' := [(0, .ref 65), (1, .int (nI j1)), (2, .int 1), (3, .int (s_now A j1)), (4, .int (nI (mk_m (s_lv A j1 false) (p + 1)))), (5, .int (nI (p + 1))), (6, .int (s_wi A j1 p (-1)))]) (v := nI (p + 1)) dX7_leave_111 rfl (nI_1 _) (by decide) rfl ?_
                  refine ev_goto (tgt := 34) dX7_leave_114 (by decide) ?_
                  refine ev_keep (lv' := [(0, .ref 65), (1, .int (nI j1)), (2, .int 1), (3, .int (s_now A j1)), (4, .int (nI (mk_m (s_lv A j1 false) (p + 1)))), (5, .int (nI (p + 1)))]) [0, 1, 2, 3, 4, 5] rfl ?_
                  exact ih (p + 1) σ11 (by omega) hI11 (fr_M.tr hF hF11) (by omega)
                · skip
                  refine ev_iconst (v := 1) dX7_leave_100 (by decide) ?_
                  refine ev_iload dX7_leave_101 rfl ?_
                  refine ev_ishl (v := nI (2 ^ p)) dX7_leave_103 (mk_1s (by omega)) ?_
                  refine ev_goto (tgt := 108) dX7_leave_104 (by decide) ?_
                  refine ev_ior (v := nI (mk_m (s_lv A j1 false) (p + 1))) dX7_leave_108 ((fa_or _ _).trans (congrArg nI (mk_t (by show (_ && decide _) = true; rw [hs, decide_eq_true (Int32.not_lt.mp c12)]; rfl)))) ?_
                  refine ev_istore (lv' := [(0, .ref 65), (1, .int (nI j1)), (2, .int 1), (3, .int (s_now A j1)), (4, .int (nI (mk_m (s_lv A j1 false) (p + 1)))), (5, .int (nI p)), (6, .int (s_wi A j1 p (-1)))]) dX7_leave_109 (by decide) rfl ?_
                  refine ev_iinc (lv' := [(0, .ref 65), (1, .int (nI j1)), (2, .int 1), (3, .int (s_now A j1)), (4, .int (nI (mk_m (s_lv A j1 false) (p + 1)))), (5, .int (nI (p + 1))), (6, .int (s_wi A j1 p (-1)))]) (v := nI (p + 1)) dX7_leave_111 rfl (nI_1 _) (by decide) rfl ?_
                  refine ev_goto (tgt := 34) dX7_leave_114 (by decide) ?_
                  refine ev_keep (lv' := [(0, .ref 65), (1, .int (nI j1)), (2, .int 1), (3, .int (s_now A j1)), (4, .int (nI (mk_m (s_lv A j1 false) (p + 1)))), (5, .int (nI (p + 1)))]) [0, 1, 2, 3, 4, 5] rfl ?_
                  exact ih (p + 1) σ11 (by omega) hI11 (fr_M.tr hF hF11) (by omega)
        exact lp _ 0 σ8 (Nat.zero_le _) hI8 (fr_M.tr fr_M.rf hF8) (Nat.lt_succ_self _)
    · skip
      have h2r := fun q => h2 ((am_rgl (n := 2) (by decide)).mpr q)
      have hw0 := am_w1 h2r
      refine ev_if_ne (tgt := 22) dX7_leave_16 (by decide) (fun c => absurd (by decide) c) (fun _ => ?_)
      refine ev_bipush (v := (-7)) dX7_leave_19 (by decide) ?_
      refine ev_reti dX7_leave_21 rfl (Nat.zero_le _) (Nat.zero_le _) ?_
      refine ⟨?_, hI, fr_M.rf⟩
      simp [sp_leave, am_inN h1 (by omega), sN_n (show j1 < 2 ^ 31 by omega), hw0]
  · skip
    refine ev_if_ne (tgt := 10) dX7_leave_4 (by decide) (fun c => absurd (by decide) c) (fun _ => ?_)
    refine ev_bipush (v := (-5)) dX7_leave_7 (by decide) ?_
    refine ev_reti dX7_leave_9 rfl (Nat.zero_le _) (Nat.zero_le _) ?_
    refine ⟨?_, hI, fr_M.rf⟩
    simp [sp_leave, am_inF (by omega) h1]

