/-! the reference: signs, what stands between -/
def sg_of (x : Int32) : Int32 := if x = 4 then 11 else if x = 5 then 12 else if x = 60 then 14 else if x = 61 then 15 else if x = 43 then 16 else if x = 45 then 17 else if x = 42 then 18 else -1
set_option maxHeartbeats 400000 in
set_option maxRecDepth 100000 in
theorem c_X7_signOf (G : am_G) (D : Nat) (A : am_S) (σ : am_M) (B : am_S) (hI : iv_M B σ) (x : Int32) (hx : σ.2.1 65 29 = x) : am_Mt G D mX7_signOf [.ref 65] σ 0 0 (am_q (.int (sg_of x)) σ) := by
  refine am_of moX7_signOf (Nat.le_of_ble_eq_true rfl) ?_
  show am_Ev G mX7_signOf (am_R D 0 0) 0 0 (am_q (.int (sg_of x)) σ) 0 [(0, .ref 65)] [] σ 0 0
  refine ev_aload_n dX7_signOf_0 rfl rfl ?_
  refine ev_getI (v := x) dX7_signOf_1 fl_X7_113 (ly_k hI.ly 65 rfl) hx ?_
  refine ev_iconst (v := 4) dX7_signOf_4 (by decide) ?_
  refine ev_icmp_ne (tgt := 13) dX7_signOf_5 (by decide) (fun c1 => ?_) (fun c1 => ?_)
  · skip
    refine ev_aload_n dX7_signOf_13 rfl rfl ?_
    refine ev_getI (v := x) dX7_signOf_14 fl_X7_113 (ly_k hI.ly 65 rfl) hx ?_
    refine ev_iconst (v := 5) dX7_signOf_17 (by decide) ?_
    refine ev_icmp_ne (tgt := 26) dX7_signOf_18 (by decide) (fun c2 => ?_) (fun c2 => ?_)
    · skip
      refine ev_aload_n dX7_signOf_26 rfl rfl ?_
      refine ev_getI (v := x) dX7_signOf_27 fl_X7_113 (ly_k hI.ly 65 rfl) hx ?_
      refine ev_bipush (v := 60) dX7_signOf_30 (by decide) ?_
      refine ev_icmp_ne (tgt := 40) dX7_signOf_32 (by decide) (fun c3 => ?_) (fun c3 => ?_)
      · skip
        refine ev_aload_n dX7_signOf_40 rfl rfl ?_
        refine ev_getI (v := x) dX7_signOf_41 fl_X7_113 (ly_k hI.ly 65 rfl) hx ?_
        refine ev_bipush (v := 61) dX7_signOf_44 (by decide) ?_
        refine ev_icmp_ne (tgt := 54) dX7_signOf_46 (by decide) (fun c4 => ?_) (fun c4 => ?_)
        · skip
          refine ev_aload_n dX7_signOf_54 rfl rfl ?_
          refine ev_getI (v := x) dX7_signOf_55 fl_X7_113 (ly_k hI.ly 65 rfl) hx ?_
          refine ev_bipush (v := 43) dX7_signOf_58 (by decide) ?_
          refine ev_icmp_ne (tgt := 68) dX7_signOf_60 (by decide) (fun c5 => ?_) (fun c5 => ?_)
          · skip
            refine ev_aload_n dX7_signOf_68 rfl rfl ?_
            refine ev_getI (v := x) dX7_signOf_69 fl_X7_113 (ly_k hI.ly 65 rfl) hx ?_
            refine ev_bipush (v := 45) dX7_signOf_72 (by decide) ?_
            refine ev_icmp_ne (tgt := 82) dX7_signOf_74 (by decide) (fun c6 => ?_) (fun c6 => ?_)
            · skip
              refine ev_aload_n dX7_signOf_82 rfl rfl ?_
              refine ev_getI (v := x) dX7_signOf_83 fl_X7_113 (ly_k hI.ly 65 rfl) hx ?_
              refine ev_bipush (v := 42) dX7_signOf_86 (by decide) ?_
              refine ev_icmp_ne (tgt := 96) dX7_signOf_88 (by decide) (fun c7 => ?_) (fun c7 => ?_)
              · skip
                refine ev_iconst (v := (-1)) dX7_signOf_96 (by decide) ?_
                refine ev_reti dX7_signOf_97 rfl (Nat.zero_le _) (Nat.zero_le _) ?_
                exact ⟨by simp [sg_of, c1, c2, c3, c4, c5, c6, c7], rfl⟩
              · skip
                refine ev_bipush (v := 18) dX7_signOf_91 (by decide) ?_
                refine ev_goto (tgt := 97) dX7_signOf_93 (by decide) ?_
                refine ev_reti dX7_signOf_97 rfl (Nat.zero_le _) (Nat.zero_le _) ?_
                exact ⟨by simp [sg_of, c1, c2, c3, c4, c5, c6, c7], rfl⟩
            · skip
              refine ev_bipush (v := 17) dX7_signOf_77 (by decide) ?_
              refine ev_goto (tgt := 97) dX7_signOf_79 (by decide) ?_
              refine ev_reti dX7_signOf_97 rfl (Nat.zero_le _) (Nat.zero_le _) ?_
              exact ⟨by simp [sg_of, c1, c2, c3, c4, c5, c6], rfl⟩
          · skip
            refine ev_bipush (v := 16) dX7_signOf_63 (by decide) ?_
            refine ev_goto (tgt := 97) dX7_signOf_65 (by decide) ?_
            refine ev_reti dX7_signOf_97 rfl (Nat.zero_le _) (Nat.zero_le _) ?_
            exact ⟨by simp [sg_of, c1, c2, c3, c4, c5], rfl⟩
        · skip
          refine ev_bipush (v := 15) dX7_signOf_49 (by decide) ?_
          refine ev_goto (tgt := 97) dX7_signOf_51 (by decide) ?_
          refine ev_reti dX7_signOf_97 rfl (Nat.zero_le _) (Nat.zero_le _) ?_
          exact ⟨by simp [sg_of, c1, c2, c3, c4], rfl⟩
      · skip
        refine ev_bipush (v := 14) dX7_signOf_35 (by decide) ?_
        refine ev_goto (tgt := 97) dX7_signOf_37 (by decide) ?_
        refine ev_reti dX7_signOf_97 rfl (Nat.zero_le _) (Nat.zero_le _) ?_
        exact ⟨by simp [sg_of, c1, c2, c3], rfl⟩
    · skip
      refine ev_bipush (v := 12) dX7_signOf_21 (by decide) ?_
      refine ev_goto (tgt := 97) dX7_signOf_23 (by decide) ?_
      refine ev_reti dX7_signOf_97 rfl (Nat.zero_le _) (Nat.zero_le _) ?_
      exact ⟨by simp [sg_of, c1, c2], rfl⟩
  · skip
    refine ev_bipush (v := 11) dX7_signOf_8 (by decide) ?_
    refine ev_goto (tgt := 97) dX7_signOf_10 (by decide) ?_
    refine ev_reti dX7_signOf_97 rfl (Nat.zero_le _) (Nat.zero_le _) ?_
    exact ⟨by simp [sg_of, c1], rfl⟩

theorem uw_len {r : Int32} : ∀ {H : List Int32} {o : Nat} {l : List Int32}, (uw r H o l).1.length + (uw r H o l).2.2.length = H.length + l.length := by
  intro H
  induction H with
  | nil => intro o l; rfl
  | cons c H ih =>
    intro o l
    by_cases h : s_rk c < r
    · rw [show uw r (c :: H) o l = (c :: H, o, l) from if_pos h]
    · rw [uw_hi h, ih, List.length_append, List.length_singleton, List.length_cons]; omega
theorem uw_oc {r : Int32} (hr : 0 < r) : ∀ {H : List Int32} {o : Nat} {l : List Int32}, o = oc H → (uw r H o l).2.1 = oc (uw r H o l).1 := by
  intro H
  induction H with
  | nil => intro o l h; exact h
  | cons c H ih =>
    intro o l h
    have ho : o = oc H + (if c = 0 ∨ c = 13 ∨ c = 19 then 1 else 0) := h
    by_cases q : s_rk c < r
    · rw [show uw r (c :: H) o l = (c :: H, o, l) from if_pos q]; exact h
    · rw [uw_hi q]
      refine ih ?_
      by_cases h3 : c = 13 ∨ c = 19
      · rw [if_pos h3, ho, if_pos (Or.inr h3), Nat.add_sub_cancel]
      · rw [if_neg h3, ho, if_neg (fun z => z.elim (fun z0 => q (by rw [z0]; exact hr)) h3)]
        rfl
def ur_of (sg : Int32) : Int32 := if s_rk sg = 4 then 5 else s_rk sg
def am_qB (A : am_S) (sg : Int32) (S : List Int32 × Nat × List Int32) (σ0 : am_M) : Option Value → am_M → Prop := fun r σ' => ((s_rk sg = 4 ∧ mr_4 S.1 = true) ∧ r = some (.int 0) ∧ iv_M (cd_S A S.2.2) σ' ∧ hs_R σ' S.1 S.2.1 S.2.2 ∧ fr_P σ0 σ') ∨ (¬ (s_rk sg = 4 ∧ mr_4 S.1 = true) ∧ r = some (.int 1) ∧ iv_M (cd_S A S.2.2) σ' ∧ hs_R σ' (sg :: S.1) S.2.1 S.2.2 ∧ fr_P σ0 σ')
set_option maxHeartbeats 400000 in
set_option maxRecDepth 100000 in
theorem c_X7_between (G : am_G) (D : Nat) (A : am_S) (σ : am_M) (H l : List Int32) (o : Nat) (hA : wf_T A) (hI : iv_M (cd_S A l) σ) (hs : hs_R σ H o l) (hnt : s_nt A < 6) (hln : H.length + l.length < 199) (ho : o = oc H) (sg : Int32) (hsg : 0 < s_rk sg) : am_Mt G (D + 2) mX7_between [.ref 65, .int sg] σ 0 0 (am_qB A sg (uw (ur_of sg) H o l) σ) := by
  have b6 := wt_6 hA
  have b160 := wt_160 hA
  refine am_of moX7_between (Nat.le_of_ble_eq_true rfl) ?_
  show am_Ev G mX7_between (am_R (D + 2) 0 0) 0 0 (am_qB A sg (uw (ur_of sg) H o l) σ) 0 [(0, .ref 65), (1, .int sg)] [] σ 0 0
  refine ev_aload_n dX7_between_0 rfl rfl ?_
  refine ev_iload_n dX7_between_1 rfl rfl ?_
  refine ev_callS (as := [.int sg]) (st := [.ref 65]) dX7_between_2 mfX7_rank lk_X7_129 (c_X7_rank G (D + 1) σ sg) rfl rfl (Nat.le_of_ble_eq_true rfl) (am_hR (by omega) (by decide)) ⟨Nat.le_refl _, Nat.le_refl _⟩ ?_
  rintro _ _ ⟨rfl, rfl⟩
  refine ev_iconst (v := 4) dX7_between_5 (by decide) ?_
  refine ev_icmp_ne (tgt := 13) dX7_between_6 (by decide) (fun c1 => ?_) (fun c1 => ?_)
  · skip
    have eu : ur_of sg = s_rk sg := if_neg c1
    rw [eu]
    refine ev_iload_n dX7_between_13 rfl rfl ?_
    refine ev_callS (as := [.int sg]) (st := [.ref 65]) dX7_between_14 mfX7_rank lk_X7_129 (c_X7_rank G (D + 1) σ sg) rfl rfl (Nat.le_of_ble_eq_true rfl) (am_hR (by omega) (by decide)) ⟨Nat.le_refl _, Nat.le_refl _⟩ ?_
    rintro _ _ ⟨rfl, rfl⟩
    refine ev_callV (as := [.int (s_rk sg)]) (st := []) dX7_between_17 mfX7_unwinds lk_X7_143 (ly_k hI.ly 65 rfl) (by decide) rfl (c_X7_unwinds G D A σ H l o hA hI hs hnt (by omega) ho (s_rk sg) hsg) rfl rfl (Nat.le_of_ble_eq_true rfl) (am_hR (by omega) (by decide)) ⟨Nat.le_refl _, Nat.le_refl _⟩ ?_
    rintro _ σ2 ⟨rfl, hI2, hs2, hF2⟩
    have hlen := uw_len (r := s_rk sg) (H := H) (o := o) (l := l)
    rcases hS : uw (s_rk sg) H o l with ⟨H2, o2, l2⟩
    rw [hS] at hI2 hs2 hlen
    have hln2 : H2.length + l2.length < 199 := by have := hlen; simp only at this; omega
    refine ev_iload_n dX7_between_20 rfl rfl ?_
    refine ev_callS (as := [.int sg]) (st := []) dX7_between_21 mfX7_rank lk_X7_129 (c_X7_rank G (D + 1) σ2 sg) rfl rfl (Nat.le_of_ble_eq_true rfl) (am_hR (by omega) (by decide)) ⟨Nat.le_refl _, Nat.le_refl _⟩ ?_
    rintro _ _ ⟨rfl, rfl⟩
    refine ev_iconst (v := 4) dX7_between_24 (by decide) ?_
    refine ev_icmp_ne (tgt := 55) dX7_between_25 (by decide) (fun _ => ?_) (fun c => absurd c (c1))
    refine ev_aload_n dX7_between_55 rfl rfl ?_
    refine ev_iload_n dX7_between_56 rfl rfl ?_
    refine ev_callV (as := [.int sg]) (st := []) dX7_between_57 mfX7_holds lk_X7_140 (ly_k hI2.ly 65 rfl) (by decide) rfl (c_X7_holds G (D + 1) A σ2 H2 l2 o2 hA hI2 hs2 hnt (by first | exact hln2 | (rw [List.length_cons]; exact hln2)) sg) rfl rfl (Nat.le_of_ble_eq_true rfl) (am_hR (by omega) (by decide)) ⟨Nat.le_refl _, Nat.le_refl _⟩ ?_
    rintro _ σ3 ⟨rfl, hI3, hs3, hF3⟩
    refine ev_iconst (v := 1) dX7_between_60 (by decide) ?_
    refine ev_retz dX7_between_61 rfl (Or.inr rfl) (Nat.zero_le _) (Nat.zero_le _) ?_
    exact Or.inr ⟨fun z => c1 z.1, rfl, hI3, hs3, (fr_P.tr (fr_P.tr fr_P.rf hF2) hF3)⟩
  · skip
    have eu : ur_of sg = 5 := if_pos c1
    rw [eu]
    refine ev_iconst (v := 5) dX7_between_9 (by decide) ?_
    refine ev_goto (tgt := 17) dX7_between_10 (by decide) ?_
    refine ev_callV (as := [.int 5]) (st := []) dX7_between_17 mfX7_unwinds lk_X7_143 (ly_k hI.ly 65 rfl) (by decide) rfl (c_X7_unwinds G D A σ H l o hA hI hs hnt (by omega) ho 5 (by decide)) rfl rfl (Nat.le_of_ble_eq_true rfl) (am_hR (by omega) (by decide)) ⟨Nat.le_refl _, Nat.le_refl _⟩ ?_
    rintro _ σ4 ⟨rfl, hI4, hs4, hF4⟩
    have hlen := uw_len (r := 5) (H := H) (o := o) (l := l)
    rcases hS : uw 5 H o l with ⟨H2, o2, l2⟩
    rw [hS] at hI4 hs4 hlen
    have hln2 : H2.length + l2.length < 199 := by have := hlen; simp only at this; omega
    refine ev_iload_n dX7_between_20 rfl rfl ?_
    refine ev_callS (as := [.int sg]) (st := []) dX7_between_21 mfX7_rank lk_X7_129 (c_X7_rank G (D + 1) σ4 sg) rfl rfl (Nat.le_of_ble_eq_true rfl) (am_hR (by omega) (by decide)) ⟨Nat.le_refl _, Nat.le_refl _⟩ ?_
    rintro _ _ ⟨rfl, rfl⟩
    refine ev_iconst (v := 4) dX7_between_24 (by decide) ?_
    refine ev_icmp_ne (tgt := 55) dX7_between_25 (by decide) (fun c => absurd (c1) c) (fun _ => ?_)
    refine ev_aload_n dX7_between_28 rfl rfl ?_
    cases H2 with
    | nil =>
      refine ev_getI (v := nI 0) dX7_between_29 fl_X7_126 (ly_k hI4.ly 65 rfl) hs4.1 ?_
      refine ev_if_le (tgt := 55) dX7_between_32 (by decide) (fun _ => ?_) (fun c => absurd (by decide) c)
      refine ev_aload_n dX7_between_55 rfl rfl ?_
      refine ev_iload_n dX7_between_56 rfl rfl ?_
      refine ev_callV (as := [.int sg]) (st := []) dX7_between_57 mfX7_holds lk_X7_140 (ly_k hI4.ly 65 rfl) (by decide) rfl (c_X7_holds G (D + 1) A σ4 [] l2 o2 hA hI4 hs4 hnt (by first | exact hln2 | (rw [List.length_cons]; exact hln2)) sg) rfl rfl (Nat.le_of_ble_eq_true rfl) (am_hR (by omega) (by decide)) ⟨Nat.le_refl _, Nat.le_refl _⟩ ?_
      rintro _ σ5 ⟨rfl, hI5, hs5, hF5⟩
      refine ev_iconst (v := 1) dX7_between_60 (by decide) ?_
      refine ev_retz dX7_between_61 rfl (Or.inr rfl) (Nat.zero_le _) (Nat.zero_le _) ?_
      exact Or.inr ⟨fun z => absurd z.2 Bool.false_ne_true, rfl, hI5, hs5, (fr_P.tr (fr_P.tr fr_P.rf hF4) hF5)⟩
    | cons c H3 =>
      rw [List.length_cons] at hln2
      refine ev_getI (v := nI (H3.length + 1)) dX7_between_29 fl_X7_126 (ly_k hI4.ly 65 rfl) hs4.1 ?_
      refine ev_if_le (tgt := 55) dX7_between_32 (by decide) (fun c => absurd c (fun z => absurd ((nI_leI (b := 0) (by omega) (by decide)).mp z) (by omega))) (fun _ => ?_)
      refine ev_aload_n dX7_between_35 rfl rfl ?_
      refine ev_getR (b := 85) dX7_between_36 fl_X7_67 (ly_k hI4.ly 65 rfl) (ly_r hI4.ly 48 rfl) ?_
      refine ev_aload_n dX7_between_39 rfl rfl ?_
      refine ev_getI (v := nI (H3.length + 1)) dX7_between_40 fl_X7_126 (ly_k hI4.ly 65 rfl) hs4.1 ?_
      refine ev_iconst (v := 1) dX7_between_43 (by decide) ?_
      refine ev_isub (v := nI H3.length) dX7_between_44 (nI_pred _) ?_
      refine ev_iald (v := c) dX7_between_45 (ly_k hI4.ly 85 rfl) (am_ixn (by omega) (by decide)) hs4.2.1.1 ?_
      refine ev_callS (as := [.int c]) (st := []) dX7_between_46 mfX7_rank lk_X7_129 (c_X7_rank G (D + 1) σ4 c) rfl rfl (Nat.le_of_ble_eq_true rfl) (am_hR (by omega) (by decide)) ⟨Nat.le_refl _, Nat.le_refl _⟩ ?_
      rintro _ _ ⟨rfl, rfl⟩
      refine ev_iconst (v := 4) dX7_between_49 (by decide) ?_
      refine ev_icmp_ne (tgt := 55) dX7_between_50 (by decide) (fun c6 => ?_) (fun c6 => ?_)
      · skip
        refine ev_aload_n dX7_between_55 rfl rfl ?_
        refine ev_iload_n dX7_between_56 rfl rfl ?_
        refine ev_callV (as := [.int sg]) (st := []) dX7_between_57 mfX7_holds lk_X7_140 (ly_k hI4.ly 65 rfl) (by decide) rfl (c_X7_holds G (D + 1) A σ4 (c :: H3) l2 o2 hA hI4 hs4 hnt (by first | exact hln2 | (rw [List.length_cons]; exact hln2)) sg) rfl rfl (Nat.le_of_ble_eq_true rfl) (am_hR (by omega) (by decide)) ⟨Nat.le_refl _, Nat.le_refl _⟩ ?_
        rintro _ σ7 ⟨rfl, hI7, hs7, hF7⟩
        refine ev_iconst (v := 1) dX7_between_60 (by decide) ?_
        refine ev_retz dX7_between_61 rfl (Or.inr rfl) (Nat.zero_le _) (Nat.zero_le _) ?_
        exact Or.inr ⟨fun z => c6 (of_decide_eq_true z.2), rfl, hI7, hs7, (fr_P.tr (fr_P.tr fr_P.rf hF4) hF7)⟩
      · skip
        refine ev_iconst (v := 0) dX7_between_53 (by decide) ?_
        refine ev_retz dX7_between_54 rfl (Or.inl rfl) (Nat.zero_le _) (Nat.zero_le _) ?_
        exact Or.inl ⟨⟨c1, decide_eq_true c6⟩, rfl, hI4, hs4, (fr_P.tr fr_P.rf hF4)⟩

