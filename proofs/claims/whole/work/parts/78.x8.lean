/-! the class: who is to leave, prices, told sheets, changes, hires -/
theorem s_lvT {A : am_S} {T p : Nat} : s_lv A T true p = (s_se A T p && decide (s_now A T < s_wi A T p (-1))) := rfl
theorem s_lvF {A : am_S} {T p : Nat} : s_lv A T false p = (s_se A T p && decide (s_now A T ≤ s_wi A T p (-1))) := rfl
theorem s_nowL {A : am_S} {T : Nat} {y : Int32} (h8 : s_nq A ≤ 8) : s_now A T + 1 ≤ y ↔ s_now A T < y := by
  obtain ⟨k, hk, e⟩ := s_nowR h8 T
  rw [e]
  have e2 : nI k + 1 = nI (k + 1) := nI_1 _
  rw [e2, Int32.le_iff_toInt_le, Int32.lt_iff_toInt_lt, nI_toInt (by omega), nI_toInt (by omega)]
  omega
set_option maxHeartbeats 400000 in
set_option maxRecDepth 100000 in
theorem c_X6_leave (G : am_G) (D : Nat) (A : am_S) (σ : am_M) (hA : wf_A A) (hX : iv_X A σ) (t w : Int32) : am_Mt G (D + 6) mX6_leave [.ref 32, .int t, .int w] σ 0 0 (am_qC A (.int (sp_leave A t w)) σ) := by
  have b7 := wf_np7 hA
  have b8 := wf_nq8 hA
  have b6 := wf_nt6 hA
  have b61 := wf_nt1 hA
  have b160 := wf_tp160 hA
  have brl := wf_rlt hA
  refine am_of moX6_leave (Nat.le_of_ble_eq_true rfl) ?_
  show am_Ev G mX6_leave (am_R (D + 6) 0 0) 0 0 (am_qC A (.int (sp_leave A t w)) σ) 0 [(0, .ref 32), (1, .int t), (2, .int w)] [] σ 0 0
  refine ev_iload_n dX6_leave_0 rfl rfl ?_
  refine ev_callS (as := [.int t]) (st := []) dX6_leave_1 mfX6_isTable lk_X6_161 (c_X6_isTable G (D + 5) σ t) rfl rfl (Nat.le_of_ble_eq_true rfl) (am_hR (by omega) (by decide)) ⟨Nat.le_refl _, Nat.le_refl _⟩ ?_
  rintro _ _ (⟨⟨j1, h1, rfl⟩, rfl, rfl⟩ | ⟨h1, rfl, rfl⟩)
  · skip
    refine ev_if_ne (tgt := 10) dX6_leave_4 (by decide) (fun _ => ?_) (fun c => absurd c (by decide))
    refine ev_iload_n dX6_leave_10 rfl rfl ?_
    refine ev_callS (as := [.int w]) (st := []) dX6_leave_11 mfX6_isZeroOrOne lk_X6_158 (c_X6_isZeroOrOne G (D + 5) σ w) rfl rfl (Nat.le_of_ble_eq_true rfl) (am_hR (by omega) (by decide)) ⟨Nat.le_refl _, Nat.le_refl _⟩ ?_
    rintro _ _ (⟨rfl | rfl, rfl, rfl⟩ | ⟨h2, rfl, rfl⟩)
    · skip
      refine ev_if_ne (tgt := 20) dX6_leave_14 (by decide) (fun _ => ?_) (fun c => absurd c (by decide))
      refine ev_aload_n dX6_leave_20 rfl rfl ?_
      refine ev_callV (as := []) (st := []) dX6_leave_21 mfX6_reckon lk_X6_164 (ly_k hX.ly 32 rfl) (by decide) rfl (c_X6_reckon G (D + 1) A σ hA hX ) rfl rfl (Nat.le_of_ble_eq_true rfl) (am_hR (by omega) (by decide)) ⟨Nat.le_refl _, Nat.le_refl _⟩ ?_
      rintro _ σ3 ⟨rfl, hX3, hF3, hc3, hr3⟩
      refine ev_aload_n dX6_leave_24 rfl rfl ?_
      refine ev_iload_n dX6_leave_25 rfl rfl ?_
      refine ev_callV (as := [.int (nI j1)]) (st := []) dX6_leave_26 mfX6_seatedAt lk_X6_167 (ly_k hX3.ly 32 rfl) (by decide) rfl (c_X6_seatedAt G (D + 4) A σ3 hA hX3 j1) rfl rfl (Nat.le_of_ble_eq_true rfl) (am_hR (by omega) (by decide)) ⟨Nat.le_refl _, Nat.le_refl _⟩ ?_
      rintro _ _ ⟨rfl, rfl⟩
      refine ev_istore_n (lv' := [(0, .ref 32), (1, .int (nI j1)), (2, .int 0), (3, .int (nI (mk_m (s_se A j1) (s_np A))))]) dX6_leave_29 rfl (by decide) rfl ?_
      refine ev_iload_n dX6_leave_30 rfl rfl ?_
      refine ev_if_ne (tgt := 44) dX6_leave_31 (by decide) (fun c => absurd (by decide) c) (fun _ => ?_)
      refine ev_aload_n dX6_leave_34 rfl rfl ?_
      refine ev_iload_n dX6_leave_35 rfl rfl ?_
      refine ev_callV (as := [.int (nI j1)]) (st := []) dX6_leave_36 mfX6_scoreNow lk_X6_177 (ly_k hX3.ly 32 rfl) (by decide) rfl (c_X6_scoreNow G (D + 4) A σ3 hA hX3 j1 (by omega) hc3 hr3) rfl rfl (Nat.le_of_ble_eq_true rfl) (am_hR (by omega) (by decide)) ⟨Nat.le_refl _, Nat.le_refl _⟩ ?_
      rintro _ _ ⟨rfl, rfl⟩
      refine ev_iconst (v := 1) dX6_leave_39 (by decide) ?_
      refine ev_iadd (v := (s_now A j1) + 1) dX6_leave_40 rfl ?_
      refine ev_goto (tgt := 49) dX6_leave_41 (by decide) ?_
      refine ev_istore (lv' := [(0, .ref 32), (1, .int (nI j1)), (2, .int 0), (3, .int (nI (mk_m (s_se A j1) (s_np A)))), (4, .int ((s_now A j1) + 1))]) dX6_leave_49 (by decide) rfl ?_
      refine ev_iconst (v := 0) dX6_leave_51 (by decide) ?_
      refine ev_istore (lv' := [(0, .ref 32), (1, .int (nI j1)), (2, .int 0), (3, .int (nI (mk_m (s_se A j1) (s_np A)))), (4, .int ((s_now A j1) + 1)), (5, .int 0)]) dX6_leave_52 (by decide) rfl ?_
      refine ev_iconst (v := 0) dX6_leave_54 (by decide) ?_
      refine ev_istore (lv' := [(0, .ref 32), (1, .int (nI j1)), (2, .int 0), (3, .int (nI (mk_m (s_se A j1) (s_np A)))), (4, .int ((s_now A j1) + 1)), (5, .int 0), (6, .int 0)]) dX6_leave_55 (by decide) rfl ?_
      have lp : ∀ (f : Nat) (p : Nat) (fd : Int32), (p ≤ s_np A) → (fd = nI (mk_m (s_lv A j1 true) p)) → s_np A - p < f → am_Ev G mX6_leave (am_R (D + 6) 0 0) 0 0 (am_qC A (.int (sp_leave A (nI j1) 0)) σ) 57 [(0, .ref 32), (1, .int (nI j1)), (2, .int 0), (3, .int (nI (mk_m (s_se A j1) (s_np A)))), (4, .int (s_now A j1 + 1)), (5, .int fd), (6, .int (nI p))] [] σ3 0 0 := by
        intro f
        induction f with
        | zero => intro p fd hp hfd hf; exact absurd hf (Nat.not_lt_zero _)
        | succ f ih =>
          intro p fd hp hfd hf
          refine ev_iload dX6_leave_57 rfl ?_
          refine ev_aload_n dX6_leave_59 rfl rfl ?_
          refine ev_getI (v := nI (s_np A)) dX6_leave_60 fl_X6_85 (ly_k hX3.ly 32 rfl) (hX3.f12.trans (wf_np hA)) ?_
          refine ev_icmp_ge (tgt := 121) dX6_leave_63 (by decide) (fun c4 => ?_) (fun c4 => ?_)
          · skip
            have c4n : (s_np A) ≤ p := (nI_leI (a := (s_np A)) (b := p) (by omega) (by omega)).mp c4
            refine ev_iload dX6_leave_121 rfl ?_
            refine ev_reti dX6_leave_123 rfl (Nat.zero_le _) (Nat.zero_le _) ?_
            have e : p = s_np A := by omega
            subst e
            refine ⟨?_, hX3, (fr_C.tr fr_C.rf hF3)⟩
            simp [sp_leave, am_inN h1 (by omega), sN_n (show j1 < 2 ^ 31 by omega), ← hfd]
          · skip
            have c4n : ¬ (s_np A) ≤ p := fun zz => c4 ((nI_leI (a := (s_np A)) (b := p) (by omega) (by omega)).mpr zz)
            cases hs : s_se A j1 p with
            | true =>
              refine ev_iload_n dX6_leave_66 rfl rfl ?_
              refine ev_iload dX6_leave_67 rfl ?_
              refine ev_ishr (v := (nI (mk_m (s_se A j1) (s_np A))) >>> ((nI p) &&& 31)) dX6_leave_69 rfl ?_
              refine ev_iconst (v := 1) dX6_leave_70 (by decide) ?_
              refine ev_iand (v := 1) dX6_leave_71 (by rw [mk_get (by omega) (by omega), hs]; rfl) ?_
              refine ev_iconst (v := 1) dX6_leave_72 (by decide) ?_
              refine ev_icmp_ne (tgt := 80) dX6_leave_73 (by decide) (fun c => absurd (by decide) c) (fun _ => ?_)
              refine ev_iconst (v := 1) dX6_leave_76 (by decide) ?_
              refine ev_goto (tgt := 81) dX6_leave_77 (by decide) ?_
              refine ev_istore (lv' := [(0, .ref 32), (1, .int (nI j1)), (2, .int 0), (3, .int (nI (mk_m (s_se A j1) (s_np A)))), (4, .int (s_now A j1 + 1)), (5, .int fd), (6, .int (nI p)), (7, .int 1)]) dX6_leave_81 (by decide) rfl ?_
              refine ev_iload dX6_leave_83 rfl ?_
              refine ev_if_eq (tgt := 115) dX6_leave_85 (by decide) (fun c => absurd c (by decide)) (fun _ => ?_)
              refine ev_aload_n dX6_leave_88 rfl rfl ?_
              refine ev_iload_n dX6_leave_89 rfl rfl ?_
              refine ev_iload_n dX6_leave_90 rfl rfl ?_
              refine ev_iconst (v := 1) dX6_leave_91 (by decide) ?_
              refine ev_iload dX6_leave_92 rfl ?_
              refine ev_ishl (v := 1 <<< ((nI p) &&& 31)) dX6_leave_94 rfl ?_
              refine ev_iconst (v := (-1)) dX6_leave_95 (by decide) ?_
              refine ev_ixor (v := nI (2 ^ p) ^^^ (-1)) dX6_leave_96 (by rw [mk_1s (by omega)]) ?_
              refine ev_iand (v := nI (mk_m (fun q => (mk_m (s_se A j1) (s_np A)).testBit q && !(2 ^ p).testBit q) (s_np A))) dX6_leave_97 (mk_and2 (mk_lt _ _) (by omega)) ?_
              refine ev_callV (as := [.int (nI j1), .int (nI (mk_m (fun q => (mk_m (s_se A j1) (s_np A)).testBit q && !(2 ^ p).testBit q) (s_np A)))]) (st := []) dX6_leave_98 mfX6_scoreIf lk_X6_193 (ly_k hX3.ly 32 rfl) (by decide) rfl (by have hh := c_X6_scoreIf G (D + 3) A σ3 hA hX3 j1 (by omega) (mk_m (fun q => (mk_m (s_se A j1) (s_np A)).testBit q && !(2 ^ p).testBit q) (s_np A)) (mk_lt _ _) hc3; rw [s_ifL (by omega)] at hh; exact hh) rfl rfl (Nat.le_of_ble_eq_true rfl) (am_hR (by omega) (by decide)) ⟨Nat.le_refl _, Nat.le_refl _⟩ ?_
              rintro _ _ ⟨rfl, rfl⟩
              refine ev_iload dX6_leave_101 rfl ?_
              refine ev_icmp_lt (tgt := 115) dX6_leave_103 (by decide) (fun c5 => ?_) (fun c5 => ?_)
              · skip
                refine ev_iinc (lv' := [(0, .ref 32), (1, .int (nI j1)), (2, .int 0), (3, .int (nI (mk_m (s_se A j1) (s_np A)))), (4, .int (s_now A j1 + 1)), (5, .int fd), (6, .int (nI (p + 1))), (7, .int 1)]) (v := nI (p + 1)) dX6_leave_115 rfl (nI_1 _) (by decide) rfl ?_
                refine ev_goto (tgt := 57) dX6_leave_118 (by decide) ?_
                refine ev_keep (lv' := [(0, .ref 32), (1, .int (nI j1)), (2, .int 0), (3, .int (nI (mk_m (s_se A j1) (s_np A)))), (4, .int (s_now A j1 + 1)), (5, .int fd), (6, .int (nI (p + 1)))]) [0, 1, 2, 3, 4, 5, 6] rfl ?_
                exact ih (p + 1) fd (by omega) (by rw [hfd, mk_f (f := s_lv A j1 true) (n := p) (by rw [s_lvT, hs, decide_eq_false (fun z => Int32.not_le.mpr c5 ((s_nowL b8).mpr z))]; rfl)]) (by omega)
              · skip
                refine ev_iload dX6_leave_106 rfl ?_
                refine ev_iconst (v := 1) dX6_leave_108 (by decide) ?_
                refine ev_iload dX6_leave_109 rfl ?_
                refine ev_ishl (v := 1 <<< ((nI p) &&& 31)) dX6_leave_111 rfl ?_
                refine ev_ior (v := fd ||| (1 <<< ((nI p) &&& 31))) dX6_leave_112 rfl ?_
                refine ev_istore (lv' := [(0, .ref 32), (1, .int (nI j1)), (2, .int 0), (3, .int (nI (mk_m (s_se A j1) (s_np A)))), (4, .int (s_now A j1 + 1)), (5, .int (fd ||| (1 <<< ((nI p) &&& 31)))), (6, .int (nI p)), (7, .int 1)]) dX6_leave_113 (by decide) rfl ?_
                refine ev_iinc (lv' := [(0, .ref 32), (1, .int (nI j1)), (2, .int 0), (3, .int (nI (mk_m (s_se A j1) (s_np A)))), (4, .int (s_now A j1 + 1)), (5, .int (fd ||| (1 <<< ((nI p) &&& 31)))), (6, .int (nI (p + 1))), (7, .int 1)]) (v := nI (p + 1)) dX6_leave_115 rfl (nI_1 _) (by decide) rfl ?_
                refine ev_goto (tgt := 57) dX6_leave_118 (by decide) ?_
                refine ev_keep (lv' := [(0, .ref 32), (1, .int (nI j1)), (2, .int 0), (3, .int (nI (mk_m (s_se A j1) (s_np A)))), (4, .int (s_now A j1 + 1)), (5, .int (fd ||| (1 <<< ((nI p) &&& 31)))), (6, .int (nI (p + 1)))]) [0, 1, 2, 3, 4, 5, 6] rfl ?_
                exact ih (p + 1) (fd ||| (1 <<< ((nI p) &&& 31))) (by omega) (by rw [hfd, mk_o1 (by omega), mk_t (f := s_lv A j1 true) (n := p) (by rw [s_lvT, hs, decide_eq_true ((s_nowL b8).mp (Int32.not_lt.mp c5))]; rfl)]) (by omega)
            | false =>
              refine ev_iload_n dX6_leave_66 rfl rfl ?_
              refine ev_iload dX6_leave_67 rfl ?_
              refine ev_ishr (v := (nI (mk_m (s_se A j1) (s_np A))) >>> ((nI p) &&& 31)) dX6_leave_69 rfl ?_
              refine ev_iconst (v := 1) dX6_leave_70 (by decide) ?_
              refine ev_iand (v := 0) dX6_leave_71 (by rw [mk_get (by omega) (by omega), hs]; rfl) ?_
              refine ev_iconst (v := 1) dX6_leave_72 (by decide) ?_
              refine ev_icmp_ne (tgt := 80) dX6_leave_73 (by decide) (fun _ => ?_) (fun c => absurd c (by decide))
              refine ev_iconst (v := 0) dX6_leave_80 (by decide) ?_
              refine ev_istore (lv' := [(0, .ref 32), (1, .int (nI j1)), (2, .int 0), (3, .int (nI (mk_m (s_se A j1) (s_np A)))), (4, .int (s_now A j1 + 1)), (5, .int fd), (6, .int (nI p)), (7, .int 0)]) dX6_leave_81 (by decide) rfl ?_
              refine ev_iload dX6_leave_83 rfl ?_
              refine ev_if_eq (tgt := 115) dX6_leave_85 (by decide) (fun _ => ?_) (fun c => absurd (by decide) c)
              refine ev_iinc (lv' := [(0, .ref 32), (1, .int (nI j1)), (2, .int 0), (3, .int (nI (mk_m (s_se A j1) (s_np A)))), (4, .int (s_now A j1 + 1)), (5, .int fd), (6, .int (nI (p + 1))), (7, .int 0)]) (v := nI (p + 1)) dX6_leave_115 rfl (nI_1 _) (by decide) rfl ?_
              refine ev_goto (tgt := 57) dX6_leave_118 (by decide) ?_
              refine ev_keep (lv' := [(0, .ref 32), (1, .int (nI j1)), (2, .int 0), (3, .int (nI (mk_m (s_se A j1) (s_np A)))), (4, .int (s_now A j1 + 1)), (5, .int fd), (6, .int (nI (p + 1)))]) [0, 1, 2, 3, 4, 5, 6] rfl ?_
              exact ih (p + 1) fd (by omega) (by rw [hfd, mk_f (f := s_lv A j1 true) (n := p) (by rw [s_lvT, hs]; rfl)]) (by omega)
      exact lp _ 0 0 (Nat.zero_le _) rfl (Nat.lt_succ_self _)
    · skip
      refine ev_if_ne (tgt := 20) dX6_leave_14 (by decide) (fun _ => ?_) (fun c => absurd c (by decide))
      refine ev_aload_n dX6_leave_20 rfl rfl ?_
      refine ev_callV (as := []) (st := []) dX6_leave_21 mfX6_reckon lk_X6_164 (ly_k hX.ly 32 rfl) (by decide) rfl (c_X6_reckon G (D + 1) A σ hA hX ) rfl rfl (Nat.le_of_ble_eq_true rfl) (am_hR (by omega) (by decide)) ⟨Nat.le_refl _, Nat.le_refl _⟩ ?_
      rintro _ σ6 ⟨rfl, hX6, hF6, hc6, hr6⟩
      refine ev_aload_n dX6_leave_24 rfl rfl ?_
      refine ev_iload_n dX6_leave_25 rfl rfl ?_
      refine ev_callV (as := [.int (nI j1)]) (st := []) dX6_leave_26 mfX6_seatedAt lk_X6_167 (ly_k hX6.ly 32 rfl) (by decide) rfl (c_X6_seatedAt G (D + 4) A σ6 hA hX6 j1) rfl rfl (Nat.le_of_ble_eq_true rfl) (am_hR (by omega) (by decide)) ⟨Nat.le_refl _, Nat.le_refl _⟩ ?_
      rintro _ _ ⟨rfl, rfl⟩
      refine ev_istore_n (lv' := [(0, .ref 32), (1, .int (nI j1)), (2, .int 1), (3, .int (nI (mk_m (s_se A j1) (s_np A))))]) dX6_leave_29 rfl (by decide) rfl ?_
      refine ev_iload_n dX6_leave_30 rfl rfl ?_
      refine ev_if_ne (tgt := 44) dX6_leave_31 (by decide) (fun _ => ?_) (fun c => absurd c (by decide))
      refine ev_aload_n dX6_leave_44 rfl rfl ?_
      refine ev_iload_n dX6_leave_45 rfl rfl ?_
      refine ev_callV (as := [.int (nI j1)]) (st := []) dX6_leave_46 mfX6_scoreNow lk_X6_177 (ly_k hX6.ly 32 rfl) (by decide) rfl (c_X6_scoreNow G (D + 4) A σ6 hA hX6 j1 (by omega) hc6 hr6) rfl rfl (Nat.le_of_ble_eq_true rfl) (am_hR (by omega) (by decide)) ⟨Nat.le_refl _, Nat.le_refl _⟩ ?_
      rintro _ _ ⟨rfl, rfl⟩
      refine ev_istore (lv' := [(0, .ref 32), (1, .int (nI j1)), (2, .int 1), (3, .int (nI (mk_m (s_se A j1) (s_np A)))), (4, .int (s_now A j1))]) dX6_leave_49 (by decide) rfl ?_
      refine ev_iconst (v := 0) dX6_leave_51 (by decide) ?_
      refine ev_istore (lv' := [(0, .ref 32), (1, .int (nI j1)), (2, .int 1), (3, .int (nI (mk_m (s_se A j1) (s_np A)))), (4, .int (s_now A j1)), (5, .int 0)]) dX6_leave_52 (by decide) rfl ?_
      refine ev_iconst (v := 0) dX6_leave_54 (by decide) ?_
      refine ev_istore (lv' := [(0, .ref 32), (1, .int (nI j1)), (2, .int 1), (3, .int (nI (mk_m (s_se A j1) (s_np A)))), (4, .int (s_now A j1)), (5, .int 0), (6, .int 0)]) dX6_leave_55 (by decide) rfl ?_
      have lp : ∀ (f : Nat) (p : Nat) (fd : Int32), (p ≤ s_np A) → (fd = nI (mk_m (s_lv A j1 false) p)) → s_np A - p < f → am_Ev G mX6_leave (am_R (D + 6) 0 0) 0 0 (am_qC A (.int (sp_leave A (nI j1) 1)) σ) 57 [(0, .ref 32), (1, .int (nI j1)), (2, .int 1), (3, .int (nI (mk_m (s_se A j1) (s_np A)))), (4, .int (s_now A j1)), (5, .int fd), (6, .int (nI p))] [] σ6 0 0 := by
        intro f
        induction f with
        | zero => intro p fd hp hfd hf; exact absurd hf (Nat.not_lt_zero _)
        | succ f ih =>
          intro p fd hp hfd hf
          refine ev_iload dX6_leave_57 rfl ?_
          refine ev_aload_n dX6_leave_59 rfl rfl ?_
          refine ev_getI (v := nI (s_np A)) dX6_leave_60 fl_X6_85 (ly_k hX6.ly 32 rfl) (hX6.f12.trans (wf_np hA)) ?_
          refine ev_icmp_ge (tgt := 121) dX6_leave_63 (by decide) (fun c7 => ?_) (fun c7 => ?_)
          · skip
            have c7n : (s_np A) ≤ p := (nI_leI (a := (s_np A)) (b := p) (by omega) (by omega)).mp c7
            refine ev_iload dX6_leave_121 rfl ?_
            refine ev_reti dX6_leave_123 rfl (Nat.zero_le _) (Nat.zero_le _) ?_
            have e : p = s_np A := by omega
            subst e
            refine ⟨?_, hX6, (fr_C.tr fr_C.rf hF6)⟩
            simp [sp_leave, am_inN h1 (by omega), sN_n (show j1 < 2 ^ 31 by omega), ← hfd]
          · skip
            have c7n : ¬ (s_np A) ≤ p := fun zz => c7 ((nI_leI (a := (s_np A)) (b := p) (by omega) (by omega)).mpr zz)
            cases hs : s_se A j1 p with
            | true =>
              refine ev_iload_n dX6_leave_66 rfl rfl ?_
              refine ev_iload dX6_leave_67 rfl ?_
              refine ev_ishr (v := (nI (mk_m (s_se A j1) (s_np A))) >>> ((nI p) &&& 31)) dX6_leave_69 rfl ?_
              refine ev_iconst (v := 1) dX6_leave_70 (by decide) ?_
              refine ev_iand (v := 1) dX6_leave_71 (by rw [mk_get (by omega) (by omega), hs]; rfl) ?_
              refine ev_iconst (v := 1) dX6_leave_72 (by decide) ?_
              refine ev_icmp_ne (tgt := 80) dX6_leave_73 (by decide) (fun c => absurd (by decide) c) (fun _ => ?_)
              refine ev_iconst (v := 1) dX6_leave_76 (by decide) ?_
              refine ev_goto (tgt := 81) dX6_leave_77 (by decide) ?_
              refine ev_istore (lv' := [(0, .ref 32), (1, .int (nI j1)), (2, .int 1), (3, .int (nI (mk_m (s_se A j1) (s_np A)))), (4, .int (s_now A j1)), (5, .int fd), (6, .int (nI p)), (7, .int 1)]) dX6_leave_81 (by decide) rfl ?_
              refine ev_iload dX6_leave_83 rfl ?_
              refine ev_if_eq (tgt := 115) dX6_leave_85 (by decide) (fun c => absurd c (by decide)) (fun _ => ?_)
              refine ev_aload_n dX6_leave_88 rfl rfl ?_
              refine ev_iload_n dX6_leave_89 rfl rfl ?_
              refine ev_iload_n dX6_leave_90 rfl rfl ?_
              refine ev_iconst (v := 1) dX6_leave_91 (by decide) ?_
              refine ev_iload dX6_leave_92 rfl ?_
              refine ev_ishl (v := 1 <<< ((nI p) &&& 31)) dX6_leave_94 rfl ?_
              refine ev_iconst (v := (-1)) dX6_leave_95 (by decide) ?_
              refine ev_ixor (v := nI (2 ^ p) ^^^ (-1)) dX6_leave_96 (by rw [mk_1s (by omega)]) ?_
              refine ev_iand (v := nI (mk_m (fun q => (mk_m (s_se A j1) (s_np A)).testBit q && !(2 ^ p).testBit q) (s_np A))) dX6_leave_97 (mk_and2 (mk_lt _ _) (by omega)) ?_
              refine ev_callV (as := [.int (nI j1), .int (nI (mk_m (fun q => (mk_m (s_se A j1) (s_np A)).testBit q && !(2 ^ p).testBit q) (s_np A)))]) (st := []) dX6_leave_98 mfX6_scoreIf lk_X6_193 (ly_k hX6.ly 32 rfl) (by decide) rfl (by have hh := c_X6_scoreIf G (D + 3) A σ6 hA hX6 j1 (by omega) (mk_m (fun q => (mk_m (s_se A j1) (s_np A)).testBit q && !(2 ^ p).testBit q) (s_np A)) (mk_lt _ _) hc6; rw [s_ifL (by omega)] at hh; exact hh) rfl rfl (Nat.le_of_ble_eq_true rfl) (am_hR (by omega) (by decide)) ⟨Nat.le_refl _, Nat.le_refl _⟩ ?_
              rintro _ _ ⟨rfl, rfl⟩
              refine ev_iload dX6_leave_101 rfl ?_
              refine ev_icmp_lt (tgt := 115) dX6_leave_103 (by decide) (fun c8 => ?_) (fun c8 => ?_)
              · skip
                refine ev_iinc (lv' := [(0, .ref 32), (1, .int (nI j1)), (2, .int 1), (3, .int (nI (mk_m (s_se A j1) (s_np A)))), (4, .int (s_now A j1)), (5, .int fd), (6, .int (nI (p + 1))), (7, .int 1)]) (v := nI (p + 1)) dX6_leave_115 rfl (nI_1 _) (by decide) rfl ?_
                refine ev_goto (tgt := 57) dX6_leave_118 (by decide) ?_
                refine ev_keep (lv' := [(0, .ref 32), (1, .int (nI j1)), (2, .int 1), (3, .int (nI (mk_m (s_se A j1) (s_np A)))), (4, .int (s_now A j1)), (5, .int fd), (6, .int (nI (p + 1)))]) [0, 1, 2, 3, 4, 5, 6] rfl ?_
                exact ih (p + 1) fd (by omega) (by rw [hfd, mk_f (f := s_lv A j1 false) (n := p) (by rw [s_lvF, hs, decide_eq_false (Int32.not_le.mpr c8)]; rfl)]) (by omega)
              · skip
                refine ev_iload dX6_leave_106 rfl ?_
                refine ev_iconst (v := 1) dX6_leave_108 (by decide) ?_
                refine ev_iload dX6_leave_109 rfl ?_
                refine ev_ishl (v := 1 <<< ((nI p) &&& 31)) dX6_leave_111 rfl ?_
                refine ev_ior (v := fd ||| (1 <<< ((nI p) &&& 31))) dX6_leave_112 rfl ?_
                refine ev_istore (lv' := [(0, .ref 32), (1, .int (nI j1)), (2, .int 1), (3, .int (nI (mk_m (s_se A j1) (s_np A)))), (4, .int (s_now A j1)), (5, .int (fd ||| (1 <<< ((nI p) &&& 31)))), (6, .int (nI p)), (7, .int 1)]) dX6_leave_113 (by decide) rfl ?_
                refine ev_iinc (lv' := [(0, .ref 32), (1, .int (nI j1)), (2, .int 1), (3, .int (nI (mk_m (s_se A j1) (s_np A)))), (4, .int (s_now A j1)), (5, .int (fd ||| (1 <<< ((nI p) &&& 31)))), (6, .int (nI (p + 1))), (7, .int 1)]) (v := nI (p + 1)) dX6_leave_115 rfl (nI_1 _) (by decide) rfl ?_
                refine ev_goto (tgt := 57) dX6_leave_118 (by decide) ?_
                refine ev_keep (lv' := [(0, .ref 32), (1, .int (nI j1)), (2, .int 1), (3, .int (nI (mk_m (s_se A j1) (s_np A)))), (4, .int (s_now A j1)), (5, .int (fd ||| (1 <<< ((nI p) &&& 31)))), (6, .int (nI (p + 1)))]) [0, 1, 2, 3, 4, 5, 6] rfl ?_
                exact ih (p + 1) (fd ||| (1 <<< ((nI p) &&& 31))) (by omega) (by rw [hfd, mk_o1 (by omega), mk_t (f := s_lv A j1 false) (n := p) (by rw [s_lvF, hs, decide_eq_true (Int32.not_lt.mp c8)]; rfl)]) (by omega)
            | false =>
              refine ev_iload_n dX6_leave_66 rfl rfl ?_
              refine ev_iload dX6_leave_67 rfl ?_
              refine ev_ishr (v := (nI (mk_m (s_se A j1) (s_np A))) >>> ((nI p) &&& 31)) dX6_leave_69 rfl ?_
              refine ev_iconst (v := 1) dX6_leave_70 (by decide) ?_
              refine ev_iand (v := 0) dX6_leave_71 (by rw [mk_get (by omega) (by omega), hs]; rfl) ?_
              refine ev_iconst (v := 1) dX6_leave_72 (by decide) ?_
              refine ev_icmp_ne (tgt := 80) dX6_leave_73 (by decide) (fun _ => ?_) (fun c => absurd c (by decide))
              refine ev_iconst (v := 0) dX6_leave_80 (by decide) ?_
              refine ev_istore (lv' := [(0, .ref 32), (1, .int (nI j1)), (2, .int 1), (3, .int (nI (mk_m (s_se A j1) (s_np A)))), (4, .int (s_now A j1)), (5, .int fd), (6, .int (nI p)), (7, .int 0)]) dX6_leave_81 (by decide) rfl ?_
              refine ev_iload dX6_leave_83 rfl ?_
              refine ev_if_eq (tgt := 115) dX6_leave_85 (by decide) (fun _ => ?_) (fun c => absurd (by decide) c)
              refine ev_iinc (lv' := [(0, .ref 32), (1, .int (nI j1)), (2, .int 1), (3, .int (nI (mk_m (s_se A j1) (s_np A)))), (4, .int (s_now A j1)), (5, .int fd), (6, .int (nI (p + 1))), (7, .int 0)]) (v := nI (p + 1)) dX6_leave_115 rfl (nI_1 _) (by decide) rfl ?_
              refine ev_goto (tgt := 57) dX6_leave_118 (by decide) ?_
              refine ev_keep (lv' := [(0, .ref 32), (1, .int (nI j1)), (2, .int 1), (3, .int (nI (mk_m (s_se A j1) (s_np A)))), (4, .int (s_now A j1)), (5, .int fd), (6, .int (nI (p + 1)))]) [0, 1, 2, 3, 4, 5, 6] rfl ?_
              exact ih (p + 1) fd (by omega) (by rw [hfd, mk_f (f := s_lv A j1 false) (n := p) (by rw [s_lvF, hs]; rfl)]) (by omega)
      exact lp _ 0 0 (Nat.zero_le _) rfl (Nat.lt_succ_self _)
    · skip
      refine ev_if_ne (tgt := 20) dX6_leave_14 (by decide) (fun c => absurd (by decide) c) (fun _ => ?_)
      refine ev_bipush (v := (-7)) dX6_leave_17 (by decide) ?_
      refine ev_reti dX6_leave_19 rfl (Nat.zero_le _) (Nat.zero_le _) ?_
      refine ⟨?_, hX, fr_C.rf⟩
      simp [sp_leave, am_inN h1 (by omega), sN_n (show j1 < 2 ^ 31 by omega), (show ¬ w = 0 from fun z => h2 (Or.inl z)), (show ¬ w = 1 from fun z => h2 (Or.inr z))]
  · skip
    refine ev_if_ne (tgt := 10) dX6_leave_4 (by decide) (fun c => absurd (by decide) c) (fun _ => ?_)
    refine ev_bipush (v := (-5)) dX6_leave_7 (by decide) ?_
    refine ev_reti dX6_leave_9 rfl (Nat.zero_le _) (Nat.zero_le _) ?_
    refine ⟨?_, hX, fr_C.rf⟩
    simp [sp_leave, am_inF (by omega) h1]

set_option maxHeartbeats 400000 in
set_option maxRecDepth 100000 in
theorem c_X6_price (G : am_G) (D : Nat) (A : am_S) (σ : am_M) (hA : wf_A A) (hX : iv_X A σ) (p : Int32) : am_Mt G (D + 4) mX6_price [.ref 32, .int p] σ 0 0 (am_qC A (.int (sp_price A p)) σ) := by
  have b7 := wf_np7 hA
  have b8 := wf_nq8 hA
  have b6 := wf_nt6 hA
  have b61 := wf_nt1 hA
  have b160 := wf_tp160 hA
  have brl := wf_rlt hA
  refine am_of moX6_price (Nat.le_of_ble_eq_true rfl) ?_
  show am_Ev G mX6_price (am_R (D + 4) 0 0) 0 0 (am_qC A (.int (sp_price A p)) σ) 0 [(0, .ref 32), (1, .int p)] [] σ 0 0
  refine ev_aload_n dX6_price_0 rfl rfl ?_
  refine ev_iload_n dX6_price_1 rfl rfl ?_
  refine ev_callV (as := [.int p]) (st := []) dX6_price_2 mfX6_personAt lk_X6_128 (ly_k hX.ly 32 rfl) (by decide) rfl (c_X6_personAt G (D + 3) A σ hA hX p) rfl rfl (Nat.le_of_ble_eq_true rfl) (am_hR (by omega) (by decide)) ⟨Nat.le_refl _, Nat.le_refl _⟩ ?_
  rintro _ _ (⟨P1, g1, rfl, hP1, hg1, rfl, rfl⟩ | ⟨hn1, rfl, rfl⟩)
  · skip
    have h91 := hX.g9 hP1 hg1
    refine ev_astore_n (lv' := [(0, .ref 32), (1, .int (nI P1)), (2, .ref g1)]) dX6_price_5 rfl (by decide) rfl ?_
    refine ev_aload_n dX6_price_6 rfl rfl ?_
    refine ev_ifnonnullR (tgt := 15) dX6_price_7 (by decide) ?_
    refine ev_aload_n dX6_price_15 rfl rfl ?_
    refine ev_iload_n dX6_price_16 rfl rfl ?_
    refine ev_aload_n dX6_price_17 rfl rfl ?_
    obtain ⟨x2, hx2⟩ := hX.te brl
    refine ev_callV (as := [.int (nI P1), .ref g1]) (st := []) dX6_price_18 mfX6_costOf lk_X6_201 (ly_k hX.ly 32 rfl) (by decide) rfl (c_X6_costOf G D A σ hA hX x2 hx2 P1 g1 hP1 hg1) rfl rfl (Nat.le_of_ble_eq_true rfl) (am_hR (by omega) (by decide)) ⟨Nat.le_refl _, Nat.le_refl _⟩ ?_
    rintro _ σ2 ⟨rfl, hX2, hF2, hE2⟩
    have hg1_2 : σ2.2.2 33 P1 = some g1 := (congrFun (congrFun hF2.2.1 33) _).trans hg1
    refine ev_reti dX6_price_21 rfl (Nat.zero_le _) (Nat.zero_le _) ?_
    refine ⟨?_, hX2, (fr_C.tr fr_C.rf hF2)⟩
    simp [sp_price, am_inN hP1 (by omega), sN_n (show P1 < 2 ^ 31 by omega)]
  · skip
    refine ev_astore_nN (lv' := [(0, .ref 32), (1, .int p), (2, .null)]) dX6_price_5 rfl (by decide) rfl ?_
    refine ev_aload_nN dX6_price_6 rfl rfl ?_
    refine ev_ifnonnullN dX6_price_7 ?_
    refine ev_bipush (v := (-5)) dX6_price_10 (by decide) ?_
    refine ev_goto (tgt := 21) dX6_price_12 (by decide) ?_
    refine ev_reti dX6_price_21 rfl (Nat.zero_le _) (Nat.zero_le _) ?_
    refine ⟨?_, hX, fr_C.rf⟩
    simp [sp_price, am_inF (by omega) hn1]

theorem s_wrz {A : am_S} {s : Int32} (h : s_wr A s = 0) : ∃ S, S < 4 ∧ s = nI S ∧ A 81 S = A 65 6 := by
  unfold s_wr at h
  by_cases h1 : am_rg s 4
  · obtain ⟨S, hS, rfl⟩ := h1
    rw [am_inN hS (by decide), if_pos rfl, sN_n (show S < 2 ^ 31 by omega)] at h
    by_cases h2 : A 80 S = -1
    · rw [if_pos h2] at h; exact absurd h (by decide)
    · rw [if_neg h2] at h
      by_cases h3 : A 81 S = A 65 6
      · exact ⟨S, hS, rfl, h3⟩
      · rw [if_neg h3] at h; exact absurd h (by decide)
  · rw [am_inF (by decide) h1, if_neg Bool.false_ne_true] at h
    exact absurd h (by decide)
set_option maxHeartbeats 400000 in
set_option maxRecDepth 100000 in
theorem c_X6_judge (G : am_G) (D : Nat) (A : am_S) (σ : am_M) (hA : wf_A A) (hX : iv_X A σ) (s t : Int32) : am_Mt G (D + 6) mX6_judge [.ref 32, .int s, .int t] σ 0 0 (am_qC A (.int (sp_judge A s t)) σ) := by
  have b7 := wf_np7 hA
  have b8 := wf_nq8 hA
  have b6 := wf_nt6 hA
  have b61 := wf_nt1 hA
  have b160 := wf_tp160 hA
  have brl := wf_rlt hA
  refine am_of moX6_judge (Nat.le_of_ble_eq_true rfl) ?_
  show am_Ev G mX6_judge (am_R (D + 6) 0 0) 0 0 (am_qC A (.int (sp_judge A s t)) σ) 0 [(0, .ref 32), (1, .int s), (2, .int t)] [] σ 0 0
  refine ev_aload_n dX6_judge_0 rfl rfl ?_
  refine ev_iload_n dX6_judge_1 rfl rfl ?_
  refine ev_callV (as := [.int s]) (st := []) dX6_judge_2 mfX6_refusalOfTold lk_X6_219 (ly_k hX.ly 32 rfl) (by decide) rfl (c_X6_refusalOfTold G (D + 4) A σ hA hX s) rfl rfl (Nat.le_of_ble_eq_true rfl) (am_hR (by omega) (by decide)) ⟨Nat.le_refl _, Nat.le_refl _⟩ ?_
  rintro _ _ ⟨rfl, rfl⟩
  refine ev_istore_n (lv' := [(0, .ref 32), (1, .int s), (2, .int t), (3, .int (s_wr A s))]) dX6_judge_5 rfl (by decide) rfl ?_
  refine ev_iload_n dX6_judge_6 rfl rfl ?_
  refine ev_if_eq (tgt := 12) dX6_judge_7 (by decide) (fun c1 => ?_) (fun c1 => ?_)
  · skip
    obtain ⟨S, hS, rfl, hsz⟩ := s_wrz c1
    refine ev_iload_n dX6_judge_12 rfl rfl ?_
    refine ev_callS (as := [.int t]) (st := []) dX6_judge_13 mfX6_isTable lk_X6_161 (c_X6_isTable G (D + 5) σ t) rfl rfl (Nat.le_of_ble_eq_true rfl) (am_hR (by omega) (by decide)) ⟨Nat.le_refl _, Nat.le_refl _⟩ ?_
    rintro _ _ (⟨⟨j2, h2, rfl⟩, rfl, rfl⟩ | ⟨h2, rfl, rfl⟩)
    · skip
      refine ev_if_ne (tgt := 22) dX6_judge_16 (by decide) (fun _ => ?_) (fun c => absurd c (by decide))
      refine ev_aload_n dX6_judge_22 rfl rfl ?_
      refine ev_callV (as := []) (st := []) dX6_judge_23 mfX6_reckon lk_X6_164 (ly_k hX.ly 32 rfl) (by decide) rfl (c_X6_reckon G (D + 1) A σ hA hX ) rfl rfl (Nat.le_of_ble_eq_true rfl) (am_hR (by omega) (by decide)) ⟨Nat.le_refl _, Nat.le_refl _⟩ ?_
      rintro _ σ3 ⟨rfl, hX3, hF3, hc3, hr3⟩
      refine ev_aload_n dX6_judge_26 rfl rfl ?_
      refine ev_iload_n dX6_judge_27 rfl rfl ?_
      refine ev_iload_n dX6_judge_28 rfl rfl ?_
      refine ev_callV (as := [.int (nI S), .int (nI j2)]) (st := []) dX6_judge_29 mfX6_firstOtherwise lk_X6_222 (ly_k hX3.ly 32 rfl) (by decide) rfl (c_X6_firstOtherwise G (D + 3) A σ3 hA hX3 S j2 hS (by omega) hsz hc3 hr3) rfl rfl (Nat.le_of_ble_eq_true rfl) (am_hR (by omega) (by decide)) ⟨Nat.le_refl _, Nat.le_refl _⟩ ?_
      rintro _ _ ⟨rfl, rfl⟩
      refine ev_reti dX6_judge_32 rfl (Nat.zero_le _) (Nat.zero_le _) ?_
      refine ⟨?_, hX3, (fr_C.tr fr_C.rf hF3)⟩
      simp [sp_judge, c1, am_inN h2 (by omega), sN_n (show j2 < 2 ^ 31 by omega), sN_n (show S < 2 ^ 31 by omega)]
    · skip
      refine ev_if_ne (tgt := 22) dX6_judge_16 (by decide) (fun c => absurd (by decide) c) (fun _ => ?_)
      refine ev_bipush (v := (-5)) dX6_judge_19 (by decide) ?_
      refine ev_reti dX6_judge_21 rfl (Nat.zero_le _) (Nat.zero_le _) ?_
      refine ⟨?_, hX, fr_C.rf⟩
      simp [sp_judge, c1, am_inF (by omega) h2, sN_n (show S < 2 ^ 31 by omega)]
  · skip
    refine ev_iload_n dX6_judge_10 rfl rfl ?_
    refine ev_reti dX6_judge_11 rfl (Nat.zero_le _) (Nat.zero_le _) ?_
    refine ⟨?_, hX, fr_C.rf⟩
    simp [sp_judge, c1]

set_option maxHeartbeats 400000 in
set_option maxRecDepth 100000 in
theorem c_X6_whose (G : am_G) (D : Nat) (A : am_S) (σ : am_M) (hA : wf_A A) (hX : iv_X A σ) (s : Int32) : am_Mt G (D + 6) mX6_whose [.ref 32, .int s] σ 0 0 (am_qC A (.int (sp_whose A s)) σ) := by
  have b7 := wf_np7 hA
  have b8 := wf_nq8 hA
  have b6 := wf_nt6 hA
  have b61 := wf_nt1 hA
  have b160 := wf_tp160 hA
  have brl := wf_rlt hA
  refine am_of moX6_whose (Nat.le_of_ble_eq_true rfl) ?_
  show am_Ev G mX6_whose (am_R (D + 6) 0 0) 0 0 (am_qC A (.int (sp_whose A s)) σ) 0 [(0, .ref 32), (1, .int s)] [] σ 0 0
  refine ev_aload_n dX6_whose_0 rfl rfl ?_
  refine ev_iload_n dX6_whose_1 rfl rfl ?_
  refine ev_callV (as := [.int s]) (st := []) dX6_whose_2 mfX6_refusalOfTold lk_X6_219 (ly_k hX.ly 32 rfl) (by decide) rfl (c_X6_refusalOfTold G (D + 4) A σ hA hX s) rfl rfl (Nat.le_of_ble_eq_true rfl) (am_hR (by omega) (by decide)) ⟨Nat.le_refl _, Nat.le_refl _⟩ ?_
  rintro _ _ ⟨rfl, rfl⟩
  refine ev_istore_n (lv' := [(0, .ref 32), (1, .int s), (2, .int (s_wr A s))]) dX6_whose_5 rfl (by decide) rfl ?_
  refine ev_iload_n dX6_whose_6 rfl rfl ?_
  refine ev_if_eq (tgt := 12) dX6_whose_7 (by decide) (fun c1 => ?_) (fun c1 => ?_)
  · skip
    obtain ⟨S, hS, rfl, hsz⟩ := s_wrz c1
    refine ev_aload_n dX6_whose_12 rfl rfl ?_
    refine ev_callV (as := []) (st := []) dX6_whose_13 mfX6_reckon lk_X6_164 (ly_k hX.ly 32 rfl) (by decide) rfl (c_X6_reckon G (D + 1) A σ hA hX ) rfl rfl (Nat.le_of_ble_eq_true rfl) (am_hR (by omega) (by decide)) ⟨Nat.le_refl _, Nat.le_refl _⟩ ?_
    rintro _ σ2 ⟨rfl, hX2, hF2, hc2, hr2⟩
    refine ev_iconst (v := 0) dX6_whose_16 (by decide) ?_
    refine ev_istore_n (lv' := [(0, .ref 32), (1, .int (nI S)), (2, .int (s_wr A (nI S))), (3, .int 0)]) dX6_whose_17 rfl (by decide) rfl ?_
    refine ev_iconst (v := 0) dX6_whose_18 (by decide) ?_
    refine ev_istore (lv' := [(0, .ref 32), (1, .int (nI S)), (2, .int (s_wr A (nI S))), (3, .int 0), (4, .int 0)]) dX6_whose_19 (by decide) rfl ?_
    refine ev_iload dX6_whose_21 rfl ?_
    refine ev_iconst (v := 3) dX6_whose_23 (by decide) ?_
    refine ev_icmp_ge (tgt := 51) dX6_whose_24 (by decide) (fun c => absurd c (by decide)) (fun _ => ?_)
    refine ev_aload_n dX6_whose_27 rfl rfl ?_
    refine ev_iload_n dX6_whose_28 rfl rfl ?_
    refine ev_iload dX6_whose_29 rfl ?_
    refine ev_callV (as := [.int (nI S), .int 0]) (st := []) dX6_whose_31 mfX6_firstOtherwise lk_X6_222 (ly_k hX2.ly 32 rfl) (by decide) rfl (c_X6_firstOtherwise G (D + 3) A σ2 hA hX2 S 0 hS (by omega) hsz hc2 hr2) rfl rfl (Nat.le_of_ble_eq_true rfl) (am_hR (by omega) (by decide)) ⟨Nat.le_refl _, Nat.le_refl _⟩ ?_
    rintro _ _ ⟨rfl, rfl⟩
    refine ev_iconst (v := (-1)) dX6_whose_34 (by decide) ?_
    refine ev_icmp_ne (tgt := 45) dX6_whose_35 (by decide) (fun c3 => ?_) (fun c3 => ?_)
    · skip
      have hu3 : ¬ s_ul A S (s_se A 0) = none := fun z => c3 ((s_ulI b8).mpr z)
      refine ev_iinc (lv' := [(0, .ref 32), (1, .int (nI S)), (2, .int (s_wr A (nI S))), (3, .int 0), (4, .int 1)]) (v := 1) dX6_whose_45 rfl (by decide) (by decide) rfl ?_
      refine ev_goto (tgt := 21) dX6_whose_48 (by decide) ?_
      refine ev_iload dX6_whose_21 rfl ?_
      refine ev_iconst (v := 3) dX6_whose_23 (by decide) ?_
      refine ev_icmp_ge (tgt := 51) dX6_whose_24 (by decide) (fun c => absurd c (by decide)) (fun _ => ?_)
      refine ev_aload_n dX6_whose_27 rfl rfl ?_
      refine ev_iload_n dX6_whose_28 rfl rfl ?_
      refine ev_iload dX6_whose_29 rfl ?_
      refine ev_callV (as := [.int (nI S), .int 1]) (st := []) dX6_whose_31 mfX6_firstOtherwise lk_X6_222 (ly_k hX2.ly 32 rfl) (by decide) rfl (c_X6_firstOtherwise G (D + 3) A σ2 hA hX2 S 1 hS (by omega) hsz hc2 hr2) rfl rfl (Nat.le_of_ble_eq_true rfl) (am_hR (by omega) (by decide)) ⟨Nat.le_refl _, Nat.le_refl _⟩ ?_
      rintro _ _ ⟨rfl, rfl⟩
      refine ev_iconst (v := (-1)) dX6_whose_34 (by decide) ?_
      refine ev_icmp_ne (tgt := 45) dX6_whose_35 (by decide) (fun c4 => ?_) (fun c4 => ?_)
      · skip
        have hu4 : ¬ s_ul A S (s_se A 1) = none := fun z => c4 ((s_ulI b8).mpr z)
        refine ev_iinc (lv' := [(0, .ref 32), (1, .int (nI S)), (2, .int (s_wr A (nI S))), (3, .int 0), (4, .int 2)]) (v := 2) dX6_whose_45 rfl (by decide) (by decide) rfl ?_
        refine ev_goto (tgt := 21) dX6_whose_48 (by decide) ?_
        refine ev_iload dX6_whose_21 rfl ?_
        refine ev_iconst (v := 3) dX6_whose_23 (by decide) ?_
        refine ev_icmp_ge (tgt := 51) dX6_whose_24 (by decide) (fun c => absurd c (by decide)) (fun _ => ?_)
        refine ev_aload_n dX6_whose_27 rfl rfl ?_
        refine ev_iload_n dX6_whose_28 rfl rfl ?_
        refine ev_iload dX6_whose_29 rfl ?_
        refine ev_callV (as := [.int (nI S), .int 2]) (st := []) dX6_whose_31 mfX6_firstOtherwise lk_X6_222 (ly_k hX2.ly 32 rfl) (by decide) rfl (c_X6_firstOtherwise G (D + 3) A σ2 hA hX2 S 2 hS (by omega) hsz hc2 hr2) rfl rfl (Nat.le_of_ble_eq_true rfl) (am_hR (by omega) (by decide)) ⟨Nat.le_refl _, Nat.le_refl _⟩ ?_
        rintro _ _ ⟨rfl, rfl⟩
        refine ev_iconst (v := (-1)) dX6_whose_34 (by decide) ?_
        refine ev_icmp_ne (tgt := 45) dX6_whose_35 (by decide) (fun c5 => ?_) (fun c5 => ?_)
        · skip
          have hu5 : ¬ s_ul A S (s_se A 2) = none := fun z => c5 ((s_ulI b8).mpr z)
          refine ev_iinc (lv' := [(0, .ref 32), (1, .int (nI S)), (2, .int (s_wr A (nI S))), (3, .int 0), (4, .int 3)]) (v := 3) dX6_whose_45 rfl (by decide) (by decide) rfl ?_
          refine ev_goto (tgt := 21) dX6_whose_48 (by decide) ?_
          refine ev_iload dX6_whose_21 rfl ?_
          refine ev_iconst (v := 3) dX6_whose_23 (by decide) ?_
          refine ev_icmp_ge (tgt := 51) dX6_whose_24 (by decide) (fun _ => ?_) (fun c => absurd (by decide) c)
          refine ev_iload_n dX6_whose_51 rfl rfl ?_
          refine ev_reti dX6_whose_52 rfl (Nat.zero_le _) (Nat.zero_le _) ?_
          refine ⟨?_, hX2, (fr_C.tr fr_C.rf hF2)⟩
          simp [sp_whose, c1, hu3, hu4, hu5, sN_n (show S < 2 ^ 31 by omega), mk_m] <;> rfl
        · skip
          have hu5 :  s_ul A S (s_se A 2) = none := (s_ulI b8).mp c5
          refine ev_iload_n dX6_whose_38 rfl rfl ?_
          refine ev_iconst (v := 1) dX6_whose_39 (by decide) ?_
          refine ev_iload dX6_whose_40 rfl ?_
          refine ev_ishl (v := 4) dX6_whose_42 (by decide) ?_
          refine ev_ior (v := 4) dX6_whose_43 (by decide) ?_
          refine ev_istore_n (lv' := [(0, .ref 32), (1, .int (nI S)), (2, .int (s_wr A (nI S))), (3, .int 4), (4, .int 2)]) dX6_whose_44 rfl (by decide) rfl ?_
          refine ev_iinc (lv' := [(0, .ref 32), (1, .int (nI S)), (2, .int (s_wr A (nI S))), (3, .int 4), (4, .int 3)]) (v := 3) dX6_whose_45 rfl (by decide) (by decide) rfl ?_
          refine ev_goto (tgt := 21) dX6_whose_48 (by decide) ?_
          refine ev_iload dX6_whose_21 rfl ?_
          refine ev_iconst (v := 3) dX6_whose_23 (by decide) ?_
          refine ev_icmp_ge (tgt := 51) dX6_whose_24 (by decide) (fun _ => ?_) (fun c => absurd (by decide) c)
          refine ev_iload_n dX6_whose_51 rfl rfl ?_
          refine ev_reti dX6_whose_52 rfl (Nat.zero_le _) (Nat.zero_le _) ?_
          refine ⟨?_, hX2, (fr_C.tr fr_C.rf hF2)⟩
          simp [sp_whose, c1, hu3, hu4, hu5, sN_n (show S < 2 ^ 31 by omega), mk_m] <;> rfl
      · skip
        have hu5 :  s_ul A S (s_se A 1) = none := (s_ulI b8).mp c4
        refine ev_iload_n dX6_whose_38 rfl rfl ?_
        refine ev_iconst (v := 1) dX6_whose_39 (by decide) ?_
        refine ev_iload dX6_whose_40 rfl ?_
        refine ev_ishl (v := 2) dX6_whose_42 (by decide) ?_
        refine ev_ior (v := 2) dX6_whose_43 (by decide) ?_
        refine ev_istore_n (lv' := [(0, .ref 32), (1, .int (nI S)), (2, .int (s_wr A (nI S))), (3, .int 2), (4, .int 1)]) dX6_whose_44 rfl (by decide) rfl ?_
        refine ev_iinc (lv' := [(0, .ref 32), (1, .int (nI S)), (2, .int (s_wr A (nI S))), (3, .int 2), (4, .int 2)]) (v := 2) dX6_whose_45 rfl (by decide) (by decide) rfl ?_
        refine ev_goto (tgt := 21) dX6_whose_48 (by decide) ?_
        refine ev_iload dX6_whose_21 rfl ?_
        refine ev_iconst (v := 3) dX6_whose_23 (by decide) ?_
        refine ev_icmp_ge (tgt := 51) dX6_whose_24 (by decide) (fun c => absurd c (by decide)) (fun _ => ?_)
        refine ev_aload_n dX6_whose_27 rfl rfl ?_
        refine ev_iload_n dX6_whose_28 rfl rfl ?_
        refine ev_iload dX6_whose_29 rfl ?_
        refine ev_callV (as := [.int (nI S), .int 2]) (st := []) dX6_whose_31 mfX6_firstOtherwise lk_X6_222 (ly_k hX2.ly 32 rfl) (by decide) rfl (c_X6_firstOtherwise G (D + 3) A σ2 hA hX2 S 2 hS (by omega) hsz hc2 hr2) rfl rfl (Nat.le_of_ble_eq_true rfl) (am_hR (by omega) (by decide)) ⟨Nat.le_refl _, Nat.le_refl _⟩ ?_
        rintro _ _ ⟨rfl, rfl⟩
        refine ev_iconst (v := (-1)) dX6_whose_34 (by decide) ?_
        refine ev_icmp_ne (tgt := 45) dX6_whose_35 (by decide) (fun c6 => ?_) (fun c6 => ?_)
        · skip
          have hu6 : ¬ s_ul A S (s_se A 2) = none := fun z => c6 ((s_ulI b8).mpr z)
          refine ev_iinc (lv' := [(0, .ref 32), (1, .int (nI S)), (2, .int (s_wr A (nI S))), (3, .int 2), (4, .int 3)]) (v := 3) dX6_whose_45 rfl (by decide) (by decide) rfl ?_
          refine ev_goto (tgt := 21) dX6_whose_48 (by decide) ?_
          refine ev_iload dX6_whose_21 rfl ?_
          refine ev_iconst (v := 3) dX6_whose_23 (by decide) ?_
          refine ev_icmp_ge (tgt := 51) dX6_whose_24 (by decide) (fun _ => ?_) (fun c => absurd (by decide) c)
          refine ev_iload_n dX6_whose_51 rfl rfl ?_
          refine ev_reti dX6_whose_52 rfl (Nat.zero_le _) (Nat.zero_le _) ?_
          refine ⟨?_, hX2, (fr_C.tr fr_C.rf hF2)⟩
          simp [sp_whose, c1, hu3, hu5, hu6, sN_n (show S < 2 ^ 31 by omega), mk_m] <;> rfl
        · skip
          have hu6 :  s_ul A S (s_se A 2) = none := (s_ulI b8).mp c6
          refine ev_iload_n dX6_whose_38 rfl rfl ?_
          refine ev_iconst (v := 1) dX6_whose_39 (by decide) ?_
          refine ev_iload dX6_whose_40 rfl ?_
          refine ev_ishl (v := 4) dX6_whose_42 (by decide) ?_
          refine ev_ior (v := 6) dX6_whose_43 (by decide) ?_
          refine ev_istore_n (lv' := [(0, .ref 32), (1, .int (nI S)), (2, .int (s_wr A (nI S))), (3, .int 6), (4, .int 2)]) dX6_whose_44 rfl (by decide) rfl ?_
          refine ev_iinc (lv' := [(0, .ref 32), (1, .int (nI S)), (2, .int (s_wr A (nI S))), (3, .int 6), (4, .int 3)]) (v := 3) dX6_whose_45 rfl (by decide) (by decide) rfl ?_
          refine ev_goto (tgt := 21) dX6_whose_48 (by decide) ?_
          refine ev_iload dX6_whose_21 rfl ?_
          refine ev_iconst (v := 3) dX6_whose_23 (by decide) ?_
          refine ev_icmp_ge (tgt := 51) dX6_whose_24 (by decide) (fun _ => ?_) (fun c => absurd (by decide) c)
          refine ev_iload_n dX6_whose_51 rfl rfl ?_
          refine ev_reti dX6_whose_52 rfl (Nat.zero_le _) (Nat.zero_le _) ?_
          refine ⟨?_, hX2, (fr_C.tr fr_C.rf hF2)⟩
          simp [sp_whose, c1, hu3, hu5, hu6, sN_n (show S < 2 ^ 31 by omega), mk_m] <;> rfl
    · skip
      have hu6 :  s_ul A S (s_se A 0) = none := (s_ulI b8).mp c3
      refine ev_iload_n dX6_whose_38 rfl rfl ?_
      refine ev_iconst (v := 1) dX6_whose_39 (by decide) ?_
      refine ev_iload dX6_whose_40 rfl ?_
      refine ev_ishl (v := 1) dX6_whose_42 (by decide) ?_
      refine ev_ior (v := 1) dX6_whose_43 (by decide) ?_
      refine ev_istore_n (lv' := [(0, .ref 32), (1, .int (nI S)), (2, .int (s_wr A (nI S))), (3, .int 1), (4, .int 0)]) dX6_whose_44 rfl (by decide) rfl ?_
      refine ev_iinc (lv' := [(0, .ref 32), (1, .int (nI S)), (2, .int (s_wr A (nI S))), (3, .int 1), (4, .int 1)]) (v := 1) dX6_whose_45 rfl (by decide) (by decide) rfl ?_
      refine ev_goto (tgt := 21) dX6_whose_48 (by decide) ?_
      refine ev_iload dX6_whose_21 rfl ?_
      refine ev_iconst (v := 3) dX6_whose_23 (by decide) ?_
      refine ev_icmp_ge (tgt := 51) dX6_whose_24 (by decide) (fun c => absurd c (by decide)) (fun _ => ?_)
      refine ev_aload_n dX6_whose_27 rfl rfl ?_
      refine ev_iload_n dX6_whose_28 rfl rfl ?_
      refine ev_iload dX6_whose_29 rfl ?_
      refine ev_callV (as := [.int (nI S), .int 1]) (st := []) dX6_whose_31 mfX6_firstOtherwise lk_X6_222 (ly_k hX2.ly 32 rfl) (by decide) rfl (c_X6_firstOtherwise G (D + 3) A σ2 hA hX2 S 1 hS (by omega) hsz hc2 hr2) rfl rfl (Nat.le_of_ble_eq_true rfl) (am_hR (by omega) (by decide)) ⟨Nat.le_refl _, Nat.le_refl _⟩ ?_
      rintro _ _ ⟨rfl, rfl⟩
      refine ev_iconst (v := (-1)) dX6_whose_34 (by decide) ?_
      refine ev_icmp_ne (tgt := 45) dX6_whose_35 (by decide) (fun c7 => ?_) (fun c7 => ?_)
      · skip
        have hu7 : ¬ s_ul A S (s_se A 1) = none := fun z => c7 ((s_ulI b8).mpr z)
        refine ev_iinc (lv' := [(0, .ref 32), (1, .int (nI S)), (2, .int (s_wr A (nI S))), (3, .int 1), (4, .int 2)]) (v := 2) dX6_whose_45 rfl (by decide) (by decide) rfl ?_
        refine ev_goto (tgt := 21) dX6_whose_48 (by decide) ?_
        refine ev_iload dX6_whose_21 rfl ?_
        refine ev_iconst (v := 3) dX6_whose_23 (by decide) ?_
        refine ev_icmp_ge (tgt := 51) dX6_whose_24 (by decide) (fun c => absurd c (by decide)) (fun _ => ?_)
        refine ev_aload_n dX6_whose_27 rfl rfl ?_
        refine ev_iload_n dX6_whose_28 rfl rfl ?_
        refine ev_iload dX6_whose_29 rfl ?_
        refine ev_callV (as := [.int (nI S), .int 2]) (st := []) dX6_whose_31 mfX6_firstOtherwise lk_X6_222 (ly_k hX2.ly 32 rfl) (by decide) rfl (c_X6_firstOtherwise G (D + 3) A σ2 hA hX2 S 2 hS (by omega) hsz hc2 hr2) rfl rfl (Nat.le_of_ble_eq_true rfl) (am_hR (by omega) (by decide)) ⟨Nat.le_refl _, Nat.le_refl _⟩ ?_
        rintro _ _ ⟨rfl, rfl⟩
        refine ev_iconst (v := (-1)) dX6_whose_34 (by decide) ?_
        refine ev_icmp_ne (tgt := 45) dX6_whose_35 (by decide) (fun c8 => ?_) (fun c8 => ?_)
        · skip
          have hu8 : ¬ s_ul A S (s_se A 2) = none := fun z => c8 ((s_ulI b8).mpr z)
          refine ev_iinc (lv' := [(0, .ref 32), (1, .int (nI S)), (2, .int (s_wr A (nI S))), (3, .int 1), (4, .int 3)]) (v := 3) dX6_whose_45 rfl (by decide) (by decide) rfl ?_
          refine ev_goto (tgt := 21) dX6_whose_48 (by decide) ?_
          refine ev_iload dX6_whose_21 rfl ?_
          refine ev_iconst (v := 3) dX6_whose_23 (by decide) ?_
          refine ev_icmp_ge (tgt := 51) dX6_whose_24 (by decide) (fun _ => ?_) (fun c => absurd (by decide) c)
          refine ev_iload_n dX6_whose_51 rfl rfl ?_
          refine ev_reti dX6_whose_52 rfl (Nat.zero_le _) (Nat.zero_le _) ?_
          refine ⟨?_, hX2, (fr_C.tr fr_C.rf hF2)⟩
          simp [sp_whose, c1, hu6, hu7, hu8, sN_n (show S < 2 ^ 31 by omega), mk_m] <;> rfl
        · skip
          have hu8 :  s_ul A S (s_se A 2) = none := (s_ulI b8).mp c8
          refine ev_iload_n dX6_whose_38 rfl rfl ?_
          refine ev_iconst (v := 1) dX6_whose_39 (by decide) ?_
          refine ev_iload dX6_whose_40 rfl ?_
          refine ev_ishl (v := 4) dX6_whose_42 (by decide) ?_
          refine ev_ior (v := 5) dX6_whose_43 (by decide) ?_
          refine ev_istore_n (lv' := [(0, .ref 32), (1, .int (nI S)), (2, .int (s_wr A (nI S))), (3, .int 5), (4, .int 2)]) dX6_whose_44 rfl (by decide) rfl ?_
          refine ev_iinc (lv' := [(0, .ref 32), (1, .int (nI S)), (2, .int (s_wr A (nI S))), (3, .int 5), (4, .int 3)]) (v := 3) dX6_whose_45 rfl (by decide) (by decide) rfl ?_
          refine ev_goto (tgt := 21) dX6_whose_48 (by decide) ?_
          refine ev_iload dX6_whose_21 rfl ?_
          refine ev_iconst (v := 3) dX6_whose_23 (by decide) ?_
          refine ev_icmp_ge (tgt := 51) dX6_whose_24 (by decide) (fun _ => ?_) (fun c => absurd (by decide) c)
          refine ev_iload_n dX6_whose_51 rfl rfl ?_
          refine ev_reti dX6_whose_52 rfl (Nat.zero_le _) (Nat.zero_le _) ?_
          refine ⟨?_, hX2, (fr_C.tr fr_C.rf hF2)⟩
          simp [sp_whose, c1, hu6, hu7, hu8, sN_n (show S < 2 ^ 31 by omega), mk_m] <;> rfl
      · skip
        have hu8 :  s_ul A S (s_se A 1) = none := (s_ulI b8).mp c7
        refine ev_iload_n dX6_whose_38 rfl rfl ?_
        refine ev_iconst (v := 1) dX6_whose_39 (by decide) ?_
        refine ev_iload dX6_whose_40 rfl ?_
        refine ev_ishl (v := 2) dX6_whose_42 (by decide) ?_
        refine ev_ior (v := 3) dX6_whose_43 (by decide) ?_
        refine ev_istore_n (lv' := [(0, .ref 32), (1, .int (nI S)), (2, .int (s_wr A (nI S))), (3, .int 3), (4, .int 1)]) dX6_whose_44 rfl (by decide) rfl ?_
        refine ev_iinc (lv' := [(0, .ref 32), (1, .int (nI S)), (2, .int (s_wr A (nI S))), (3, .int 3), (4, .int 2)]) (v := 2) dX6_whose_45 rfl (by decide) (by decide) rfl ?_
        refine ev_goto (tgt := 21) dX6_whose_48 (by decide) ?_
        refine ev_iload dX6_whose_21 rfl ?_
        refine ev_iconst (v := 3) dX6_whose_23 (by decide) ?_
        refine ev_icmp_ge (tgt := 51) dX6_whose_24 (by decide) (fun c => absurd c (by decide)) (fun _ => ?_)
        refine ev_aload_n dX6_whose_27 rfl rfl ?_
        refine ev_iload_n dX6_whose_28 rfl rfl ?_
        refine ev_iload dX6_whose_29 rfl ?_
        refine ev_callV (as := [.int (nI S), .int 2]) (st := []) dX6_whose_31 mfX6_firstOtherwise lk_X6_222 (ly_k hX2.ly 32 rfl) (by decide) rfl (c_X6_firstOtherwise G (D + 3) A σ2 hA hX2 S 2 hS (by omega) hsz hc2 hr2) rfl rfl (Nat.le_of_ble_eq_true rfl) (am_hR (by omega) (by decide)) ⟨Nat.le_refl _, Nat.le_refl _⟩ ?_
        rintro _ _ ⟨rfl, rfl⟩
        refine ev_iconst (v := (-1)) dX6_whose_34 (by decide) ?_
        refine ev_icmp_ne (tgt := 45) dX6_whose_35 (by decide) (fun c9 => ?_) (fun c9 => ?_)
        · skip
          have hu9 : ¬ s_ul A S (s_se A 2) = none := fun z => c9 ((s_ulI b8).mpr z)
          refine ev_iinc (lv' := [(0, .ref 32), (1, .int (nI S)), (2, .int (s_wr A (nI S))), (3, .int 3), (4, .int 3)]) (v := 3) dX6_whose_45 rfl (by decide) (by decide) rfl ?_
          refine ev_goto (tgt := 21) dX6_whose_48 (by decide) ?_
          refine ev_iload dX6_whose_21 rfl ?_
          refine ev_iconst (v := 3) dX6_whose_23 (by decide) ?_
          refine ev_icmp_ge (tgt := 51) dX6_whose_24 (by decide) (fun _ => ?_) (fun c => absurd (by decide) c)
          refine ev_iload_n dX6_whose_51 rfl rfl ?_
          refine ev_reti dX6_whose_52 rfl (Nat.zero_le _) (Nat.zero_le _) ?_
          refine ⟨?_, hX2, (fr_C.tr fr_C.rf hF2)⟩
          simp [sp_whose, c1, hu6, hu8, hu9, sN_n (show S < 2 ^ 31 by omega), mk_m] <;> rfl
        · skip
          have hu9 :  s_ul A S (s_se A 2) = none := (s_ulI b8).mp c9
          refine ev_iload_n dX6_whose_38 rfl rfl ?_
          refine ev_iconst (v := 1) dX6_whose_39 (by decide) ?_
          refine ev_iload dX6_whose_40 rfl ?_
          refine ev_ishl (v := 4) dX6_whose_42 (by decide) ?_
          refine ev_ior (v := 7) dX6_whose_43 (by decide) ?_
          refine ev_istore_n (lv' := [(0, .ref 32), (1, .int (nI S)), (2, .int (s_wr A (nI S))), (3, .int 7), (4, .int 2)]) dX6_whose_44 rfl (by decide) rfl ?_
          refine ev_iinc (lv' := [(0, .ref 32), (1, .int (nI S)), (2, .int (s_wr A (nI S))), (3, .int 7), (4, .int 3)]) (v := 3) dX6_whose_45 rfl (by decide) (by decide) rfl ?_
          refine ev_goto (tgt := 21) dX6_whose_48 (by decide) ?_
          refine ev_iload dX6_whose_21 rfl ?_
          refine ev_iconst (v := 3) dX6_whose_23 (by decide) ?_
          refine ev_icmp_ge (tgt := 51) dX6_whose_24 (by decide) (fun _ => ?_) (fun c => absurd (by decide) c)
          refine ev_iload_n dX6_whose_51 rfl rfl ?_
          refine ev_reti dX6_whose_52 rfl (Nat.zero_le _) (Nat.zero_le _) ?_
          refine ⟨?_, hX2, (fr_C.tr fr_C.rf hF2)⟩
          simp [sp_whose, c1, hu6, hu8, hu9, sN_n (show S < 2 ^ 31 by omega), mk_m] <;> rfl
  · skip
    refine ev_iload_n dX6_whose_10 rfl rfl ?_
    refine ev_reti dX6_whose_11 rfl (Nat.zero_le _) (Nat.zero_le _) ?_
    refine ⟨?_, hX, fr_C.rf⟩
    simp [sp_whose, c1]

theorem s_cxS {A : am_S} {a n : Nat} {x : Int32 × Int32} (h : A 69 a = A 69 (a + 1 + n)) : s_c1 A a x (n + 1) = s_c1 A a x n := if_pos h
theorem s_cxY {A : am_S} {a n : Nat} {x : Int32 × Int32} (h : ¬ A 69 a = A 69 (a + 1 + n)) (h2 : s_ac A a (a + 1 + n) < (s_c1 A a x n).2) : s_c1 A a x (n + 1) = (nI (10 * a + (a + 1 + n)), s_ac A a (a + 1 + n)) := (if_neg h).trans (if_pos h2)
theorem s_cxN {A : am_S} {a n : Nat} {x : Int32 × Int32} (h : ¬ A 69 a = A 69 (a + 1 + n)) (h2 : ¬ s_ac A a (a + 1 + n) < (s_c1 A a x n).2) : s_c1 A a x (n + 1) = s_c1 A a x n := (if_neg h).trans (if_neg h2)
theorem s_acN {A : am_S} {a b : Nat} (h8 : s_nq A ≤ 8) : ¬ s_ac A a b = -1 := s_ap_n (show s_nq (s_sw A a b) ≤ 8 by have e : s_nq (s_sw A a b) = s_nq A := (s_eq.nq s_swE).symm; omega) _
set_option maxHeartbeats 400000 in
set_option maxRecDepth 100000 in
theorem c_X6_change (G : am_G) (D : Nat) (A : am_S) (σ : am_M) (hA : wf_A A) (hX : iv_X A σ) (w : Int32) : am_Mt G (D + 6) mX6_change [.ref 32, .int w] σ 0 0 (am_qC A (.int (sp_change A w)) σ) := by
  have b7 := wf_np7 hA
  have b8 := wf_nq8 hA
  have b6 := wf_nt6 hA
  have b61 := wf_nt1 hA
  have b160 := wf_tp160 hA
  have brl := wf_rlt hA
  refine am_of moX6_change (Nat.le_of_ble_eq_true rfl) ?_
  show am_Ev G mX6_change (am_R (D + 6) 0 0) 0 0 (am_qC A (.int (sp_change A w)) σ) 0 [(0, .ref 32), (1, .int w)] [] σ 0 0
  refine ev_iload_n dX6_change_0 rfl rfl ?_
  refine ev_callS (as := [.int w]) (st := []) dX6_change_1 mfX6_isZeroOrOne lk_X6_158 (c_X6_isZeroOrOne G (D + 5) σ w) rfl rfl (Nat.le_of_ble_eq_true rfl) (am_hR (by omega) (by decide)) ⟨Nat.le_refl _, Nat.le_refl _⟩ ?_
  rintro _ _ (⟨rfl | rfl, rfl, rfl⟩ | ⟨h1, rfl, rfl⟩)
  · skip
    refine ev_if_ne (tgt := 10) dX6_change_4 (by decide) (fun _ => ?_) (fun c => absurd c (by decide))
    refine ev_aload_n dX6_change_10 rfl rfl ?_
    refine ev_callV (as := []) (st := []) dX6_change_11 mfX6_reckon lk_X6_164 (ly_k hX.ly 32 rfl) (by decide) rfl (c_X6_reckon G (D + 1) A σ hA hX ) rfl rfl (Nat.le_of_ble_eq_true rfl) (am_hR (by omega) (by decide)) ⟨Nat.le_refl _, Nat.le_refl _⟩ ?_
    rintro _ σ2 ⟨rfl, hX2, hF2, hc2, hr2⟩
    refine ev_iconst (v := (-1)) dX6_change_14 (by decide) ?_
    refine ev_istore_n (lv' := [(0, .ref 32), (1, .int 0), (2, .int (-1))]) dX6_change_15 rfl (by decide) rfl ?_
    refine ev_aload_n dX6_change_16 rfl rfl ?_
    refine ev_sipush (v := 255) dX6_change_17 (by decide) ?_
    refine ev_callV (as := [.int 255]) (st := []) dX6_change_20 mfX6_apartBy lk_X6_187 (ly_k hX2.ly 32 rfl) (by decide) rfl (c_X6_apartBy G (D + 4) A σ2 hA hX2 255 (by omega) hc2 hr2) rfl rfl (Nat.le_of_ble_eq_true rfl) (am_hR (by omega) (by decide)) ⟨Nat.le_refl _, Nat.le_refl _⟩ ?_
    rintro _ _ ⟨rfl, rfl⟩
    refine ev_istore_n (lv' := [(0, .ref 32), (1, .int 0), (2, .int (-1)), (3, .int (s_ap A (fun q => (255 : Nat).testBit q)))]) dX6_change_23 rfl (by decide) rfl ?_
    refine ev_iconst (v := 0) dX6_change_24 (by decide) ?_
    refine ev_istore (lv' := [(0, .ref 32), (1, .int 0), (2, .int (-1)), (3, .int (s_ap A (fun q => (255 : Nat).testBit q))), (4, .int 0)]) dX6_change_25 (by decide) rfl ?_
    have lp : ∀ (f : Nat) (a : Nat) (fd : Int32) (hi : Int32) (τ1 : am_M), (a ≤ s_np A) → (fd = (s_c2 A a).1) → (hi = (s_c2 A a).2) → (iv_X A τ1) → (fr_C σ τ1) → (cb_X A τ1) → (cr_X A τ1) → s_np A - a < f → am_Ev G mX6_change (am_R (D + 6) 0 0) 0 0 (am_qC A (.int (sp_change A 0)) σ) 27 [(0, .ref 32), (1, .int 0), (2, .int fd), (3, .int hi), (4, .int (nI a))] [] τ1 0 0 := by
      intro f
      induction f with
      | zero => intro a fd hi τ1 ha hfd hhi hXt hFt hct hrt hf; exact absurd hf (Nat.not_lt_zero _)
      | succ f ih =>
        intro a fd hi τ1 ha hfd hhi hXt hFt hct hrt hf
        refine ev_iload dX6_change_27 rfl ?_
        refine ev_aload_n dX6_change_29 rfl rfl ?_
        refine ev_getI (v := nI (s_np A)) dX6_change_30 fl_X6_85 (ly_k hXt.ly 32 rfl) (hXt.f12.trans (wf_np hA)) ?_
        refine ev_icmp_ge (tgt := 105) dX6_change_33 (by decide) (fun c3 => ?_) (fun c3 => ?_)
        · skip
          have c3n : (s_np A) ≤ a := (nI_leI (a := (s_np A)) (b := a) (by omega) (by omega)).mp c3
          refine ev_iload_n dX6_change_105 rfl rfl ?_
          refine ev_if_ne (tgt := 113) dX6_change_106 (by decide) (fun c => absurd (by decide) c) (fun _ => ?_)
          refine ev_iload_n dX6_change_109 rfl rfl ?_
          refine ev_goto (tgt := 114) dX6_change_110 (by decide) ?_
          refine ev_reti dX6_change_114 rfl (Nat.zero_le _) (Nat.zero_le _) ?_
          have e : a = s_np A := by omega
          subst e
          refine ⟨?_, hXt, hFt⟩
          simp [sp_change, ← hfd, ← hhi]
        · skip
          have c3n : ¬ (s_np A) ≤ a := fun zz => c3 ((nI_leI (a := (s_np A)) (b := a) (by omega) (by omega)).mpr zz)
          refine ev_iload dX6_change_36 rfl ?_
          refine ev_iconst (v := 1) dX6_change_38 (by decide) ?_
          refine ev_iadd (v := nI (a + 1)) dX6_change_39 (nI_1 _) ?_
          refine ev_istore (lv' := [(0, .ref 32), (1, .int 0), (2, .int fd), (3, .int hi), (4, .int (nI a)), (5, .int (nI (a + 1)))]) dX6_change_40 (by decide) rfl ?_
          have lq : ∀ (f : Nat) (n : Nat) (fd2 : Int32) (hi2 : Int32) (τ2 : am_M), (n ≤ s_np A - (a + 1)) → (fd2 = (s_c1 A a (s_c2 A a) n).1) → (hi2 = (s_c1 A a (s_c2 A a) n).2) → (iv_X A τ2) → (fr_C σ τ2) → (cb_X A τ2) → (cr_X A τ2) → s_np A - (a + 1) - n < f → am_Ev G mX6_change (am_R (D + 6) 0 0) 0 0 (am_qC A (.int (sp_change A 0)) σ) 42 [(0, .ref 32), (1, .int 0), (2, .int fd2), (3, .int hi2), (4, .int (nI a)), (5, .int (nI (a + 1 + n)))] [] τ2 0 0 := by
            intro f
            induction f with
            | zero => intro n fd2 hi2 τ2 hn hfd2 hhi2 hXu hFu hcu hru hf; exact absurd hf (Nat.not_lt_zero _)
            | succ f ih_lq =>
              intro n fd2 hi2 τ2 hn hfd2 hhi2 hXu hFu hcu hru hf
              refine ev_iload dX6_change_42 rfl ?_
              refine ev_aload_n dX6_change_44 rfl rfl ?_
              refine ev_getI (v := nI (s_np A)) dX6_change_45 fl_X6_85 (ly_k hXu.ly 32 rfl) (hXu.f12.trans (wf_np hA)) ?_
              refine ev_icmp_ge (tgt := 99) dX6_change_48 (by decide) (fun c4 => ?_) (fun c4 => ?_)
              · skip
                have c4n : (s_np A) ≤ (a + 1 + n) := (nI_leI (a := (s_np A)) (b := (a + 1 + n)) (by omega) (by omega)).mp c4
                refine ev_iinc (lv' := [(0, .ref 32), (1, .int 0), (2, .int fd2), (3, .int hi2), (4, .int (nI (a + 1))), (5, .int (nI (a + 1 + n)))]) (v := nI (a + 1)) dX6_change_99 rfl (nI_1 _) (by decide) rfl ?_
                refine ev_goto (tgt := 27) dX6_change_102 (by decide) ?_
                refine ev_keep (lv' := [(0, .ref 32), (1, .int 0), (2, .int fd2), (3, .int hi2), (4, .int (nI (a + 1)))]) [0, 1, 2, 3, 4] rfl ?_
                exact ih (a + 1) fd2 hi2 τ2 (by omega) (by rw [hfd2, show n = s_np A - (a + 1) by omega]; rfl) (by rw [hhi2, show n = s_np A - (a + 1) by omega]; rfl) hXu hFu hcu hru (by omega)
              · skip
                have c4n : ¬ (s_np A) ≤ (a + 1 + n) := fun zz => c4 ((nI_leI (a := (s_np A)) (b := (a + 1 + n)) (by omega) (by omega)).mpr zz)
                refine ev_aload_n dX6_change_51 rfl rfl ?_
                refine ev_aload_n dX6_change_52 rfl rfl ?_
                refine ev_iload dX6_change_53 rfl ?_
                have hp5 : a < s_np A := by omega
                obtain ⟨g5, hg5⟩ := hXu.ge hp5
                have h95 := hXu.g9 hp5 hg5
                refine ev_callV (as := [.int (nI a)]) (st := [.ref 32]) dX6_change_55 mfX6_personAt lk_X6_128 (ly_k hXu.ly 32 rfl) (by decide) rfl (c_X6_personAtN G (D + 5) A τ2 hA hXu a g5 hp5 hg5) rfl rfl (Nat.le_of_ble_eq_true rfl) (am_hR (by omega) (by decide)) ⟨Nat.le_refl _, Nat.le_refl _⟩ ?_
                rintro _ _ ⟨rfl, rfl⟩
                refine ev_aload_n dX6_change_58 rfl rfl ?_
                refine ev_iload dX6_change_59 rfl ?_
                have hp6 : (a + 1 + n) < s_np A := by omega
                obtain ⟨g6, hg6⟩ := hXu.ge hp6
                have h96 := hXu.g9 hp6 hg6
                refine ev_callV (as := [.int (nI (a + 1 + n))]) (st := [.ref g5, .ref 32]) dX6_change_61 mfX6_personAt lk_X6_128 (ly_k hXu.ly 32 rfl) (by decide) rfl (c_X6_personAtN G (D + 5) A τ2 hA hXu (a + 1 + n) g6 hp6 hg6) rfl rfl (Nat.le_of_ble_eq_true rfl) (am_hR (by omega) (by decide)) ⟨Nat.le_refl _, Nat.le_refl _⟩ ?_
                rintro _ _ ⟨rfl, rfl⟩
                refine ev_callV (as := [.ref g5, .ref g6]) (st := []) dX6_change_64 mfX6_apartIfChanged lk_X6_215 (ly_k hXu.ly 32 rfl) (by decide) rfl (c_X6_apartIfChanged G (D + 2) A τ2 hA hXu a (a + 1 + n) g5 g6 hp5 hp6 (by omega) hg5 hg6 hcu hru) rfl rfl (Nat.le_of_ble_eq_true rfl) (am_hR (by omega) (by decide)) ⟨Nat.le_refl _, Nat.le_refl _⟩ ?_
                rintro _ σ7 ⟨rfl, hX7, hF7, hc7, hr7⟩
                by_cases hsame : A 69 a = A 69 (a + 1 + n)
                · rw [if_pos hsame]
                  refine ev_istore (lv' := [(0, .ref 32), (1, .int 0), (2, .int fd2), (3, .int hi2), (4, .int (nI a)), (5, .int (nI (a + 1 + n))), (6, .int (-1))]) dX6_change_67 (by decide) rfl ?_
                  refine ev_iload dX6_change_69 rfl ?_
                  refine ev_iconst (v := (-1)) dX6_change_71 (by decide) ?_
                  refine ev_icmp_eq (tgt := 93) dX6_change_72 (by decide) (fun _ => ?_) (fun c => absurd (by decide) c)
                  refine ev_iinc (lv' := [(0, .ref 32), (1, .int 0), (2, .int fd2), (3, .int hi2), (4, .int (nI a)), (5, .int (nI (a + 1 + n + 1))), (6, .int (-1))]) (v := nI (a + 1 + n + 1)) dX6_change_93 rfl (nI_1 _) (by decide) rfl ?_
                  refine ev_goto (tgt := 42) dX6_change_96 (by decide) ?_
                  refine ev_keep (lv' := [(0, .ref 32), (1, .int 0), (2, .int fd2), (3, .int hi2), (4, .int (nI a)), (5, .int (nI (a + 1 + n + 1)))]) [0, 1, 2, 3, 4, 5] rfl ?_
                  exact ih_lq (n + 1) fd2 hi2 σ7 (by omega) (by rw [s_cxS hsame]; exact hfd2) (by rw [s_cxS hsame]; exact hhi2) hX7 (fr_C.tr hFu hF7) hc7 hr7 (by omega)
                · rw [if_neg hsame]
                  refine ev_istore (lv' := [(0, .ref 32), (1, .int 0), (2, .int fd2), (3, .int hi2), (4, .int (nI a)), (5, .int (nI (a + 1 + n))), (6, .int (s_ac A a (a + 1 + n)))]) dX6_change_67 (by decide) rfl ?_
                  refine ev_iload dX6_change_69 rfl ?_
                  refine ev_iconst (v := (-1)) dX6_change_71 (by decide) ?_
                  refine ev_icmp_eq (tgt := 93) dX6_change_72 (by decide) (fun c => absurd c (s_acN b8)) (fun _ => ?_)
                  refine ev_iload dX6_change_75 rfl ?_
                  refine ev_iload_n dX6_change_77 rfl rfl ?_
                  refine ev_icmp_ge (tgt := 93) dX6_change_78 (by decide) (fun c8 => ?_) (fun c8 => ?_)
                  · skip
                    refine ev_iinc (lv' := [(0, .ref 32), (1, .int 0), (2, .int fd2), (3, .int hi2), (4, .int (nI a)), (5, .int (nI (a + 1 + n + 1))), (6, .int (s_ac A a (a + 1 + n)))]) (v := nI (a + 1 + n + 1)) dX6_change_93 rfl (nI_1 _) (by decide) rfl ?_
                    refine ev_goto (tgt := 42) dX6_change_96 (by decide) ?_
                    refine ev_keep (lv' := [(0, .ref 32), (1, .int 0), (2, .int fd2), (3, .int hi2), (4, .int (nI a)), (5, .int (nI (a + 1 + n + 1)))]) [0, 1, 2, 3, 4, 5] rfl ?_
                    exact ih_lq (n + 1) fd2 hi2 σ7 (by omega) (by rw [s_cxN hsame (by rw [← hhi2]; exact Int32.not_lt.mpr c8)]; exact hfd2) (by rw [s_cxN hsame (by rw [← hhi2]; exact Int32.not_lt.mpr c8)]; exact hhi2) hX7 (fr_C.tr hFu hF7) hc7 hr7 (by omega)
                  · skip
                    refine ev_iload dX6_change_81 rfl ?_
                    refine ev_istore_n (lv' := [(0, .ref 32), (1, .int 0), (2, .int fd2), (3, .int (s_ac A a (a + 1 + n))), (4, .int (nI a)), (5, .int (nI (a + 1 + n))), (6, .int (s_ac A a (a + 1 + n)))]) dX6_change_83 rfl (by decide) rfl ?_
                    refine ev_bipush (v := 10) dX6_change_84 (by decide) ?_
                    refine ev_iload dX6_change_86 rfl ?_
                    refine ev_imul (v := nI (10 * a)) dX6_change_88 (pk_mul 10 a) ?_
                    refine ev_iload dX6_change_89 rfl ?_
                    refine ev_iadd (v := nI (10 * a + (a + 1 + n))) dX6_change_91 (nI_add _ _) ?_
                    refine ev_istore_n (lv' := [(0, .ref 32), (1, .int 0), (2, .int (nI (10 * a + (a + 1 + n)))), (3, .int (s_ac A a (a + 1 + n))), (4, .int (nI a)), (5, .int (nI (a + 1 + n))), (6, .int (s_ac A a (a + 1 + n)))]) dX6_change_92 rfl (by decide) rfl ?_
                    refine ev_iinc (lv' := [(0, .ref 32), (1, .int 0), (2, .int (nI (10 * a + (a + 1 + n)))), (3, .int (s_ac A a (a + 1 + n))), (4, .int (nI a)), (5, .int (nI (a + 1 + n + 1))), (6, .int (s_ac A a (a + 1 + n)))]) (v := nI (a + 1 + n + 1)) dX6_change_93 rfl (nI_1 _) (by decide) rfl ?_
                    refine ev_goto (tgt := 42) dX6_change_96 (by decide) ?_
                    refine ev_keep (lv' := [(0, .ref 32), (1, .int 0), (2, .int (nI (10 * a + (a + 1 + n)))), (3, .int (s_ac A a (a + 1 + n))), (4, .int (nI a)), (5, .int (nI (a + 1 + n + 1)))]) [0, 1, 2, 3, 4, 5] rfl ?_
                    exact ih_lq (n + 1) (nI (10 * a + (a + 1 + n))) (s_ac A a (a + 1 + n)) σ7 (by omega) (by rw [s_cxY hsame (by rw [← hhi2]; exact Int32.not_le.mp c8)]) (by rw [s_cxY hsame (by rw [← hhi2]; exact Int32.not_le.mp c8)]) hX7 (fr_C.tr hFu hF7) hc7 hr7 (by omega)
          exact lq _ 0 fd hi τ1 (Nat.zero_le _) hfd hhi hXt hFt hct hrt (Nat.lt_succ_self _)
    exact lp _ 0 (-1) (s_ap A (fun q => (255 : Nat).testBit q)) σ2 (Nat.zero_le _) rfl (s_ap255 b8) hX2 (fr_C.tr fr_C.rf hF2) hc2 hr2 (Nat.lt_succ_self _)
  · skip
    refine ev_if_ne (tgt := 10) dX6_change_4 (by decide) (fun _ => ?_) (fun c => absurd c (by decide))
    refine ev_aload_n dX6_change_10 rfl rfl ?_
    refine ev_callV (as := []) (st := []) dX6_change_11 mfX6_reckon lk_X6_164 (ly_k hX.ly 32 rfl) (by decide) rfl (c_X6_reckon G (D + 1) A σ hA hX ) rfl rfl (Nat.le_of_ble_eq_true rfl) (am_hR (by omega) (by decide)) ⟨Nat.le_refl _, Nat.le_refl _⟩ ?_
    rintro _ σ9 ⟨rfl, hX9, hF9, hc9, hr9⟩
    refine ev_iconst (v := (-1)) dX6_change_14 (by decide) ?_
    refine ev_istore_n (lv' := [(0, .ref 32), (1, .int 1), (2, .int (-1))]) dX6_change_15 rfl (by decide) rfl ?_
    refine ev_aload_n dX6_change_16 rfl rfl ?_
    refine ev_sipush (v := 255) dX6_change_17 (by decide) ?_
    refine ev_callV (as := [.int 255]) (st := []) dX6_change_20 mfX6_apartBy lk_X6_187 (ly_k hX9.ly 32 rfl) (by decide) rfl (c_X6_apartBy G (D + 4) A σ9 hA hX9 255 (by omega) hc9 hr9) rfl rfl (Nat.le_of_ble_eq_true rfl) (am_hR (by omega) (by decide)) ⟨Nat.le_refl _, Nat.le_refl _⟩ ?_
    rintro _ _ ⟨rfl, rfl⟩
    refine ev_istore_n (lv' := [(0, .ref 32), (1, .int 1), (2, .int (-1)), (3, .int (s_ap A (fun q => (255 : Nat).testBit q)))]) dX6_change_23 rfl (by decide) rfl ?_
    refine ev_iconst (v := 0) dX6_change_24 (by decide) ?_
    refine ev_istore (lv' := [(0, .ref 32), (1, .int 1), (2, .int (-1)), (3, .int (s_ap A (fun q => (255 : Nat).testBit q))), (4, .int 0)]) dX6_change_25 (by decide) rfl ?_
    have lp : ∀ (f : Nat) (a : Nat) (fd : Int32) (hi : Int32) (τ1 : am_M), (a ≤ s_np A) → (fd = (s_c2 A a).1) → (hi = (s_c2 A a).2) → (iv_X A τ1) → (fr_C σ τ1) → (cb_X A τ1) → (cr_X A τ1) → s_np A - a < f → am_Ev G mX6_change (am_R (D + 6) 0 0) 0 0 (am_qC A (.int (sp_change A 1)) σ) 27 [(0, .ref 32), (1, .int 1), (2, .int fd), (3, .int hi), (4, .int (nI a))] [] τ1 0 0 := by
      intro f
      induction f with
      | zero => intro a fd hi τ1 ha hfd hhi hXt hFt hct hrt hf; exact absurd hf (Nat.not_lt_zero _)
      | succ f ih =>
        intro a fd hi τ1 ha hfd hhi hXt hFt hct hrt hf
        refine ev_iload dX6_change_27 rfl ?_
        refine ev_aload_n dX6_change_29 rfl rfl ?_
        refine ev_getI (v := nI (s_np A)) dX6_change_30 fl_X6_85 (ly_k hXt.ly 32 rfl) (hXt.f12.trans (wf_np hA)) ?_
        refine ev_icmp_ge (tgt := 105) dX6_change_33 (by decide) (fun c10 => ?_) (fun c10 => ?_)
        · skip
          have c10n : (s_np A) ≤ a := (nI_leI (a := (s_np A)) (b := a) (by omega) (by omega)).mp c10
          refine ev_iload_n dX6_change_105 rfl rfl ?_
          refine ev_if_ne (tgt := 113) dX6_change_106 (by decide) (fun _ => ?_) (fun c => absurd c (by decide))
          refine ev_iload_n dX6_change_113 rfl rfl ?_
          refine ev_reti dX6_change_114 rfl (Nat.zero_le _) (Nat.zero_le _) ?_
          have e : a = s_np A := by omega
          subst e
          refine ⟨?_, hXt, hFt⟩
          simp [sp_change, ← hfd, ← hhi]
        · skip
          have c10n : ¬ (s_np A) ≤ a := fun zz => c10 ((nI_leI (a := (s_np A)) (b := a) (by omega) (by omega)).mpr zz)
          refine ev_iload dX6_change_36 rfl ?_
          refine ev_iconst (v := 1) dX6_change_38 (by decide) ?_
          refine ev_iadd (v := nI (a + 1)) dX6_change_39 (nI_1 _) ?_
          refine ev_istore (lv' := [(0, .ref 32), (1, .int 1), (2, .int fd), (3, .int hi), (4, .int (nI a)), (5, .int (nI (a + 1)))]) dX6_change_40 (by decide) rfl ?_
          have lq : ∀ (f : Nat) (n : Nat) (fd2 : Int32) (hi2 : Int32) (τ2 : am_M), (n ≤ s_np A - (a + 1)) → (fd2 = (s_c1 A a (s_c2 A a) n).1) → (hi2 = (s_c1 A a (s_c2 A a) n).2) → (iv_X A τ2) → (fr_C σ τ2) → (cb_X A τ2) → (cr_X A τ2) → s_np A - (a + 1) - n < f → am_Ev G mX6_change (am_R (D + 6) 0 0) 0 0 (am_qC A (.int (sp_change A 1)) σ) 42 [(0, .ref 32), (1, .int 1), (2, .int fd2), (3, .int hi2), (4, .int (nI a)), (5, .int (nI (a + 1 + n)))] [] τ2 0 0 := by
            intro f
            induction f with
            | zero => intro n fd2 hi2 τ2 hn hfd2 hhi2 hXu hFu hcu hru hf; exact absurd hf (Nat.not_lt_zero _)
            | succ f ih_lq =>
              intro n fd2 hi2 τ2 hn hfd2 hhi2 hXu hFu hcu hru hf
              refine ev_iload dX6_change_42 rfl ?_
              refine ev_aload_n dX6_change_44 rfl rfl ?_
              refine ev_getI (v := nI (s_np A)) dX6_change_45 fl_X6_85 (ly_k hXu.ly 32 rfl) (hXu.f12.trans (wf_np hA)) ?_
              refine ev_icmp_ge (tgt := 99) dX6_change_48 (by decide) (fun c11 => ?_) (fun c11 => ?_)
              · skip
                have c11n : (s_np A) ≤ (a + 1 + n) := (nI_leI (a := (s_np A)) (b := (a + 1 + n)) (by omega) (by omega)).mp c11
                refine ev_iinc (lv' := [(0, .ref 32), (1, .int 1), (2, .int fd2), (3, .int hi2), (4, .int (nI (a + 1))), (5, .int (nI (a + 1 + n)))]) (v := nI (a + 1)) dX6_change_99 rfl (nI_1 _) (by decide) rfl ?_
                refine ev_goto (tgt := 27) dX6_change_102 (by decide) ?_
                refine ev_keep (lv' := [(0, .ref 32), (1, .int 1), (2, .int fd2), (3, .int hi2), (4, .int (nI (a + 1)))]) [0, 1, 2, 3, 4] rfl ?_
                exact ih (a + 1) fd2 hi2 τ2 (by omega) (by rw [hfd2, show n = s_np A - (a + 1) by omega]; rfl) (by rw [hhi2, show n = s_np A - (a + 1) by omega]; rfl) hXu hFu hcu hru (by omega)
              · skip
                have c11n : ¬ (s_np A) ≤ (a + 1 + n) := fun zz => c11 ((nI_leI (a := (s_np A)) (b := (a + 1 + n)) (by omega) (by omega)).mpr zz)
                refine ev_aload_n dX6_change_51 rfl rfl ?_
                refine ev_aload_n dX6_change_52 rfl rfl ?_
                refine ev_iload dX6_change_53 rfl ?_
                have hp12 : a < s_np A := by omega
                obtain ⟨g12, hg12⟩ := hXu.ge hp12
                have h912 := hXu.g9 hp12 hg12
                refine ev_callV (as := [.int (nI a)]) (st := [.ref 32]) dX6_change_55 mfX6_personAt lk_X6_128 (ly_k hXu.ly 32 rfl) (by decide) rfl (c_X6_personAtN G (D + 5) A τ2 hA hXu a g12 hp12 hg12) rfl rfl (Nat.le_of_ble_eq_true rfl) (am_hR (by omega) (by decide)) ⟨Nat.le_refl _, Nat.le_refl _⟩ ?_
                rintro _ _ ⟨rfl, rfl⟩
                refine ev_aload_n dX6_change_58 rfl rfl ?_
                refine ev_iload dX6_change_59 rfl ?_
                have hp13 : (a + 1 + n) < s_np A := by omega
                obtain ⟨g13, hg13⟩ := hXu.ge hp13
                have h913 := hXu.g9 hp13 hg13
                refine ev_callV (as := [.int (nI (a + 1 + n))]) (st := [.ref g12, .ref 32]) dX6_change_61 mfX6_personAt lk_X6_128 (ly_k hXu.ly 32 rfl) (by decide) rfl (c_X6_personAtN G (D + 5) A τ2 hA hXu (a + 1 + n) g13 hp13 hg13) rfl rfl (Nat.le_of_ble_eq_true rfl) (am_hR (by omega) (by decide)) ⟨Nat.le_refl _, Nat.le_refl _⟩ ?_
                rintro _ _ ⟨rfl, rfl⟩
                refine ev_callV (as := [.ref g12, .ref g13]) (st := []) dX6_change_64 mfX6_apartIfChanged lk_X6_215 (ly_k hXu.ly 32 rfl) (by decide) rfl (c_X6_apartIfChanged G (D + 2) A τ2 hA hXu a (a + 1 + n) g12 g13 hp12 hp13 (by omega) hg12 hg13 hcu hru) rfl rfl (Nat.le_of_ble_eq_true rfl) (am_hR (by omega) (by decide)) ⟨Nat.le_refl _, Nat.le_refl _⟩ ?_
                rintro _ σ14 ⟨rfl, hX14, hF14, hc14, hr14⟩
                by_cases hsame : A 69 a = A 69 (a + 1 + n)
                · rw [if_pos hsame]
                  refine ev_istore (lv' := [(0, .ref 32), (1, .int 1), (2, .int fd2), (3, .int hi2), (4, .int (nI a)), (5, .int (nI (a + 1 + n))), (6, .int (-1))]) dX6_change_67 (by decide) rfl ?_
                  refine ev_iload dX6_change_69 rfl ?_
                  refine ev_iconst (v := (-1)) dX6_change_71 (by decide) ?_
                  refine ev_icmp_eq (tgt := 93) dX6_change_72 (by decide) (fun _ => ?_) (fun c => absurd (by decide) c)
                  refine ev_iinc (lv' := [(0, .ref 32), (1, .int 1), (2, .int fd2), (3, .int hi2), (4, .int (nI a)), (5, .int (nI (a + 1 + n + 1))), (6, .int (-1))]) (v := nI (a + 1 + n + 1)) dX6_change_93 rfl (nI_1 _) (by decide) rfl ?_
                  refine ev_goto (tgt := 42) dX6_change_96 (by decide) ?_
                  refine ev_keep (lv' := [(0, .ref 32), (1, .int 1), (2, .int fd2), (3, .int hi2), (4, .int (nI a)), (5, .int (nI (a + 1 + n + 1)))]) [0, 1, 2, 3, 4, 5] rfl ?_
                  exact ih_lq (n + 1) fd2 hi2 σ14 (by omega) (by rw [s_cxS hsame]; exact hfd2) (by rw [s_cxS hsame]; exact hhi2) hX14 (fr_C.tr hFu hF14) hc14 hr14 (by omega)
                · rw [if_neg hsame]
                  refine ev_istore (lv' := [(0, .ref 32), (1, .int 1), (2, .int fd2), (3, .int hi2), (4, .int (nI a)), (5, .int (nI (a + 1 + n))), (6, .int (s_ac A a (a + 1 + n)))]) dX6_change_67 (by decide) rfl ?_
                  refine ev_iload dX6_change_69 rfl ?_
                  refine ev_iconst (v := (-1)) dX6_change_71 (by decide) ?_
                  refine ev_icmp_eq (tgt := 93) dX6_change_72 (by decide) (fun c => absurd c (s_acN b8)) (fun _ => ?_)
                  refine ev_iload dX6_change_75 rfl ?_
                  refine ev_iload_n dX6_change_77 rfl rfl ?_
                  refine ev_icmp_ge (tgt := 93) dX6_change_78 (by decide) (fun c15 => ?_) (fun c15 => ?_)
                  · skip
                    refine ev_iinc (lv' := [(0, .ref 32), (1, .int 1), (2, .int fd2), (3, .int hi2), (4, .int (nI a)), (5, .int (nI (a + 1 + n + 1))), (6, .int (s_ac A a (a + 1 + n)))]) (v := nI (a + 1 + n + 1)) dX6_change_93 rfl (nI_1 _) (by decide) rfl ?_
                    refine ev_goto (tgt := 42) dX6_change_96 (by decide) ?_
                    refine ev_keep (lv' := [(0, .ref 32), (1, .int 1), (2, .int fd2), (3, .int hi2), (4, .int (nI a)), (5, .int (nI (a + 1 + n + 1)))]) [0, 1, 2, 3, 4, 5] rfl ?_
                    exact ih_lq (n + 1) fd2 hi2 σ14 (by omega) (by rw [s_cxN hsame (by rw [← hhi2]; exact Int32.not_lt.mpr c15)]; exact hfd2) (by rw [s_cxN hsame (by rw [← hhi2]; exact Int32.not_lt.mpr c15)]; exact hhi2) hX14 (fr_C.tr hFu hF14) hc14 hr14 (by omega)
                  · skip
                    refine ev_iload dX6_change_81 rfl ?_
                    refine ev_istore_n (lv' := [(0, .ref 32), (1, .int 1), (2, .int fd2), (3, .int (s_ac A a (a + 1 + n))), (4, .int (nI a)), (5, .int (nI (a + 1 + n))), (6, .int (s_ac A a (a + 1 + n)))]) dX6_change_83 rfl (by decide) rfl ?_
                    refine ev_bipush (v := 10) dX6_change_84 (by decide) ?_
                    refine ev_iload dX6_change_86 rfl ?_
                    refine ev_imul (v := nI (10 * a)) dX6_change_88 (pk_mul 10 a) ?_
                    refine ev_iload dX6_change_89 rfl ?_
                    refine ev_iadd (v := nI (10 * a + (a + 1 + n))) dX6_change_91 (nI_add _ _) ?_
                    refine ev_istore_n (lv' := [(0, .ref 32), (1, .int 1), (2, .int (nI (10 * a + (a + 1 + n)))), (3, .int (s_ac A a (a + 1 + n))), (4, .int (nI a)), (5, .int (nI (a + 1 + n))), (6, .int (s_ac A a (a + 1 + n)))]) dX6_change_92 rfl (by decide) rfl ?_
                    refine ev_iinc (lv' := [(0, .ref 32), (1, .int 1), (2, .int (nI (10 * a + (a + 1 + n)))), (3, .int (s_ac A a (a + 1 + n))), (4, .int (nI a)), (5, .int (nI (a + 1 + n + 1))), (6, .int (s_ac A a (a + 1 + n)))]) (v := nI (a + 1 + n + 1)) dX6_change_93 rfl (nI_1 _) (by decide) rfl ?_
                    refine ev_goto (tgt := 42) dX6_change_96 (by decide) ?_
                    refine ev_keep (lv' := [(0, .ref 32), (1, .int 1), (2, .int (nI (10 * a + (a + 1 + n)))), (3, .int (s_ac A a (a + 1 + n))), (4, .int (nI a)), (5, .int (nI (a + 1 + n + 1)))]) [0, 1, 2, 3, 4, 5] rfl ?_
                    exact ih_lq (n + 1) (nI (10 * a + (a + 1 + n))) (s_ac A a (a + 1 + n)) σ14 (by omega) (by rw [s_cxY hsame (by rw [← hhi2]; exact Int32.not_le.mp c15)]) (by rw [s_cxY hsame (by rw [← hhi2]; exact Int32.not_le.mp c15)]) hX14 (fr_C.tr hFu hF14) hc14 hr14 (by omega)
          exact lq _ 0 fd hi τ1 (Nat.zero_le _) hfd hhi hXt hFt hct hrt (Nat.lt_succ_self _)
    exact lp _ 0 (-1) (s_ap A (fun q => (255 : Nat).testBit q)) σ9 (Nat.zero_le _) rfl (s_ap255 b8) hX9 (fr_C.tr fr_C.rf hF9) hc9 hr9 (Nat.lt_succ_self _)
  · skip
    refine ev_if_ne (tgt := 10) dX6_change_4 (by decide) (fun c => absurd (by decide) c) (fun _ => ?_)
    refine ev_bipush (v := (-2)) dX6_change_7 (by decide) ?_
    refine ev_reti dX6_change_9 rfl (Nat.zero_le _) (Nat.zero_le _) ?_
    refine ⟨?_, hX, fr_C.rf⟩
    simp [sp_change, (show ¬ w = 0 from fun z => h1 (Or.inl z)), (show ¬ w = 1 from fun z => h1 (Or.inr z))]

