/-! the reference: changes of places, sheets, laws -/
set_option maxHeartbeats 400000 in
set_option maxRecDepth 100000 in
theorem c_X7_apartChanged (G : am_G) (D : Nat) (A : am_S) (σ : am_M) (hA : wf_A A) (hI : iv_M A σ) (a b : Nat) (ha : a < s_np A) (hb : b < s_np A) : am_Mt G (D + 9) mX7_apartChanged [.ref 65, .int (nI a), .int (nI b)] σ 0 0 (am_qM A (.int (s_ac A a b)) σ) := by
  have b7 := wf_np7 hA
  have b8 := wf_nq8 hA
  have b6 := wf_nt6 hA
  have b61 := wf_nt1 hA
  have b160 := wf_tp160 hA
  have brl := wf_rlt hA
  refine am_of moX7_apartChanged (Nat.le_of_ble_eq_true rfl) ?_
  show am_Ev G mX7_apartChanged (am_R (D + 9) 0 0) 0 0 (am_qM A (.int (s_ac A a b)) σ) 0 [(0, .ref 65), (1, .int (nI a)), (2, .int (nI b))] [] σ 0 0
  refine ev_aload_n dX7_apartChanged_0 rfl rfl ?_
  refine ev_getR (b := 69) dX7_apartChanged_1 fl_X7_19 (ly_k hI.ly 65 rfl) (ly_r hI.ly 32 rfl) ?_
  refine ev_iload_n dX7_apartChanged_4 rfl rfl ?_
  refine ev_iald (v := A 69 a) dX7_apartChanged_5 (ly_k hI.ly 69 rfl) (am_ixn (by omega) (by decide)) (hI.rd 69 a rfl) ?_
  refine ev_istore_n (lv' := [(0, .ref 65), (1, .int (nI a)), (2, .int (nI b)), (3, .int (A 69 a))]) dX7_apartChanged_6 rfl (by decide) rfl ?_
  refine ev_aload_n dX7_apartChanged_7 rfl rfl ?_
  refine ev_getR (b := 69) dX7_apartChanged_8 fl_X7_19 (ly_k hI.ly 65 rfl) (ly_r hI.ly 32 rfl) ?_
  refine ev_iload_n dX7_apartChanged_11 rfl rfl ?_
  refine ev_aload_n dX7_apartChanged_12 rfl rfl ?_
  refine ev_getR (b := 69) dX7_apartChanged_13 fl_X7_19 (ly_k hI.ly 65 rfl) (ly_r hI.ly 32 rfl) ?_
  refine ev_iload_n dX7_apartChanged_16 rfl rfl ?_
  refine ev_iald (v := A 69 b) dX7_apartChanged_17 (ly_k hI.ly 69 rfl) (am_ixn (by omega) (by decide)) (hI.rd 69 b rfl) ?_
  refine ev_iast dX7_apartChanged_18 (ly_k hI.ly 69 rfl) (am_ixn (by omega) (by decide)) ?_
  refine ev_aload_n dX7_apartChanged_19 rfl rfl ?_
  refine ev_getR (b := 69) dX7_apartChanged_20 fl_X7_19 (ly_k (iv_M.up hI).ly 65 rfl) (ly_r (iv_M.up hI).ly 32 rfl) ?_
  refine ev_iload_n dX7_apartChanged_23 rfl rfl ?_
  refine ev_iload_n dX7_apartChanged_24 rfl rfl ?_
  refine ev_iast dX7_apartChanged_25 (ly_k (iv_M.up hI).ly 69 rfl) (am_ixn (by omega) (by decide)) ?_
  have hIs : iv_M (s_sw A a b) (am_sI (am_sI σ 69 a (A 69 b)) 69 b (A 69 a)) := (iv_M.up (iv_M.up hI))
  have hAs : wf_A (s_sw A a b) := wf_sw hA ha hb
  have b8s := wf_nq8 hAs
  refine ev_aload_n dX7_apartChanged_26 rfl rfl ?_
  refine ev_aload_n dX7_apartChanged_27 rfl rfl ?_
  refine ev_callV (as := []) (st := [.ref 65]) dX7_apartChanged_28 mfX7_all lk_X7_211 (ly_k hIs.ly 65 rfl) (by decide) rfl (c_X7_all G (D + 8) (s_sw A a b) (am_sI (am_sI σ 69 a (A 69 b)) 69 b (A 69 a)) hAs hIs ) rfl rfl (Nat.le_of_ble_eq_true rfl) (am_hR (by omega) (by decide)) ⟨Nat.le_refl _, Nat.le_refl _⟩ ?_
  rintro _ _ ⟨rfl, rfl⟩
  refine ev_callV (as := [.int (nI (2 ^ s_nq (s_sw A a b) - 1))]) (st := []) dX7_apartChanged_31 mfX7_apart lk_X7_229 (ly_k hIs.ly 65 rfl) (by decide) rfl (c_X7_apart G D (s_sw A a b) (am_sI (am_sI σ 69 a (A 69 b)) 69 b (A 69 a)) hAs hIs (2 ^ s_nq (s_sw A a b) - 1) (Nat.lt_of_le_of_lt (Nat.sub_le _ _) (Nat.pow_lt_pow_right (by decide) (by omega)))) rfl rfl (Nat.le_of_ble_eq_true rfl) (am_hR (by omega) (by decide)) ⟨Nat.le_refl _, Nat.le_refl _⟩ ?_
  rintro _ σ1 ⟨rfl, hI1, hF1⟩
  refine ev_istore (lv' := [(0, .ref 65), (1, .int (nI a)), (2, .int (nI b)), (3, .int (A 69 a)), (4, .int (s_ap (s_sw A a b) (fun q => Nat.testBit (2 ^ s_nq (s_sw A a b) - 1) q)))]) dX7_apartChanged_34 (by decide) rfl ?_
  refine ev_aload_n dX7_apartChanged_36 rfl rfl ?_
  refine ev_getR (b := 69) dX7_apartChanged_37 fl_X7_19 (ly_k hI1.ly 65 rfl) (ly_r hI1.ly 32 rfl) ?_
  refine ev_iload_n dX7_apartChanged_40 rfl rfl ?_
  refine ev_aload_n dX7_apartChanged_41 rfl rfl ?_
  refine ev_getR (b := 69) dX7_apartChanged_42 fl_X7_19 (ly_k hI1.ly 65 rfl) (ly_r hI1.ly 32 rfl) ?_
  refine ev_iload_n dX7_apartChanged_45 rfl rfl ?_
  refine ev_iald (v := (s_sw A a b) 69 a) dX7_apartChanged_46 (ly_k hI1.ly 69 rfl) (am_ixn (by omega) (by decide)) (hI1.rd 69 a rfl) ?_
  refine ev_iast dX7_apartChanged_47 (ly_k hI1.ly 69 rfl) (am_ixn (by omega) (by decide)) ?_
  refine ev_aload_n dX7_apartChanged_48 rfl rfl ?_
  refine ev_getR (b := 69) dX7_apartChanged_49 fl_X7_19 (ly_k (iv_M.up hI1).ly 65 rfl) (ly_r (iv_M.up hI1).ly 32 rfl) ?_
  refine ev_iload_n dX7_apartChanged_52 rfl rfl ?_
  refine ev_iload_n dX7_apartChanged_53 rfl rfl ?_
  refine ev_iast dX7_apartChanged_54 (ly_k (iv_M.up hI1).ly 69 rfl) (am_ixn (by omega) (by decide)) ?_
  refine ev_iload dX7_apartChanged_55 rfl ?_
  refine ev_reti dX7_apartChanged_57 rfl (Nat.zero_le _) (Nat.zero_le _) ?_
  exact ⟨by rw [s_acE], iv_M.cg (iv_M.up (iv_M.up hI1)) (fun _ _ _ => by rw [s_swb]), (fr_M.wr (by decide) (fr_M.wr (by decide) (fr_M.tr (fr_M.wr (by decide) (fr_M.wr (by decide) fr_M.rf)) hF1)))⟩

set_option maxHeartbeats 400000 in
set_option maxRecDepth 100000 in
theorem c_X7_change (G : am_G) (D : Nat) (A : am_S) (σ : am_M) (hA : wf_A A) (hI : iv_M A σ) (w : Int32) : am_Mt G (D + 10) mX7_change [.ref 65, .int w] σ 0 0 (am_qM A (.int (sp_change A w)) σ) := by
  have b7 := wf_np7 hA
  have b8 := wf_nq8 hA
  have b6 := wf_nt6 hA
  have b61 := wf_nt1 hA
  have b160 := wf_tp160 hA
  have brl := wf_rlt hA
  refine am_of moX7_change (Nat.le_of_ble_eq_true rfl) ?_
  show am_Ev G mX7_change (am_R (D + 10) 0 0) 0 0 (am_qM A (.int (sp_change A w)) σ) 0 [(0, .ref 65), (1, .int w)] [] σ 0 0
  refine ev_iload_n dX7_change_0 rfl rfl ?_
  refine ev_iconst (v := 0) dX7_change_1 (by decide) ?_
  refine ev_iconst (v := 1) dX7_change_2 (by decide) ?_
  refine ev_callS (as := [.int w, .int 0, .int 1]) (st := []) dX7_change_3 mfX7_in lk_X7_90 (c_X7_in G (D + 9) σ w 0 1) rfl rfl (Nat.le_of_ble_eq_true rfl) (am_hR (by omega) (by decide)) ⟨Nat.le_refl _, Nat.le_refl _⟩ ?_
  rintro _ _ (⟨h1, rfl, rfl⟩ | ⟨h1, rfl, rfl⟩)
  · skip
    rcases am_v1 h1 with rfl | rfl
    · skip
      refine ev_if_ne (tgt := 12) dX7_change_6 (by decide) (fun _ => ?_) (fun c => absurd c (by decide))
      refine ev_iconst (v := (-1)) dX7_change_12 (by decide) ?_
      refine ev_istore_n (lv' := [(0, .ref 65), (1, .int 0), (2, .int (-1))]) dX7_change_13 rfl (by decide) rfl ?_
      refine ev_aload_n dX7_change_14 rfl rfl ?_
      refine ev_aload_n dX7_change_15 rfl rfl ?_
      refine ev_callV (as := []) (st := [.ref 65]) dX7_change_16 mfX7_all lk_X7_211 (ly_k hI.ly 65 rfl) (by decide) rfl (c_X7_all G (D + 9) A σ hA hI ) rfl rfl (Nat.le_of_ble_eq_true rfl) (am_hR (by omega) (by decide)) ⟨Nat.le_refl _, Nat.le_refl _⟩ ?_
      rintro _ _ ⟨rfl, rfl⟩
      refine ev_callV (as := [.int (nI (2 ^ s_nq A - 1))]) (st := []) dX7_change_19 mfX7_apart lk_X7_229 (ly_k hI.ly 65 rfl) (by decide) rfl (c_X7_apart G (D + 1) A σ hA hI (2 ^ s_nq A - 1) (Nat.lt_of_le_of_lt (Nat.sub_le _ _) (Nat.pow_lt_pow_right (by decide) (by omega)))) rfl rfl (Nat.le_of_ble_eq_true rfl) (am_hR (by omega) (by decide)) ⟨Nat.le_refl _, Nat.le_refl _⟩ ?_
      rintro _ σ2 ⟨rfl, hI2, hF2⟩
      refine ev_istore_n (lv' := [(0, .ref 65), (1, .int 0), (2, .int (-1)), (3, .int (s_ap A (fun q => Nat.testBit (2 ^ s_nq A - 1) q)))]) dX7_change_22 rfl (by decide) rfl ?_
      refine ev_iconst (v := 0) dX7_change_23 (by decide) ?_
      refine ev_istore (lv' := [(0, .ref 65), (1, .int 0), (2, .int (-1)), (3, .int (s_ap A (fun q => Nat.testBit (2 ^ s_nq A - 1) q))), (4, .int 0)]) dX7_change_24 (by decide) rfl ?_
      have lp : ∀ (f : Nat) (a : Nat) (best : Int32) (gap : Int32) (σ1 : am_M), (a ≤ s_np A) → (best = (s_c2 A a).1) → (gap = (s_c2 A a).2) → (iv_M A σ1) → (fr_M σ σ1) → s_np A - a < f → am_Ev G mX7_change (am_R (D + 10) 0 0) 0 0 (am_qM A (.int (sp_change A 0)) σ) 26 [(0, .ref 65), (1, .int 0), (2, .int best), (3, .int gap), (4, .int (nI a))] [] σ1 0 0 := by
        intro f
        induction f with
        | zero => intro a best gap σ1 ha hb hm hI hF hf; exact absurd hf (Nat.not_lt_zero _)
        | succ f ih =>
          intro a best gap σ1 ha hb hm hI hF hf
          refine ev_iload dX7_change_26 rfl ?_
          refine ev_aload_n dX7_change_28 rfl rfl ?_
          refine ev_getI (v := nI (s_np A)) dX7_change_29 fl_X7_87 (ly_k hI.ly 65 rfl) ((hI.rd 65 0 rfl).trans (wf_np hA)) ?_
          refine ev_icmp_ge (tgt := 125) dX7_change_32 (by decide) (fun c3 => ?_) (fun c3 => ?_)
          · skip
            have c3n : (s_np A) ≤ a := (nI_leI (a := (s_np A)) (b := a) (by omega) (by omega)).mp c3
            refine ev_iload_n dX7_change_125 rfl rfl ?_
            refine ev_if_ne (tgt := 133) dX7_change_126 (by decide) (fun c => absurd (by decide) c) (fun _ => ?_)
            refine ev_iload_n dX7_change_129 rfl rfl ?_
            refine ev_goto (tgt := 134) dX7_change_130 (by decide) ?_
            refine ev_reti dX7_change_134 rfl (Nat.zero_le _) (Nat.zero_le _) ?_
            have e : a = s_np A := by omega
            subst e
            exact ⟨by rw [hb]; rfl, hI, hF⟩
          · skip
            have c3n : ¬ (s_np A) ≤ a := fun zz => c3 ((nI_leI (a := (s_np A)) (b := a) (by omega) (by omega)).mpr zz)
            refine ev_iload dX7_change_35 rfl ?_
            refine ev_iconst (v := 1) dX7_change_37 (by decide) ?_
            refine ev_iadd (v := nI (a + 1)) dX7_change_38 (nI_1 _) ?_
            refine ev_istore (lv' := [(0, .ref 65), (1, .int 0), (2, .int best), (3, .int gap), (4, .int (nI a)), (5, .int (nI (a + 1)))]) dX7_change_39 (by decide) rfl ?_
            have lq : ∀ (f : Nat) (b : Nat) (best2 : Int32) (gap2 : Int32) (σ2 : am_M), (a + 1 ≤ b) → (b ≤ s_np A) → (best2 = (s_c1 A a (s_c2 A a) (b - (a + 1))).1) → (gap2 = (s_c1 A a (s_c2 A a) (b - (a + 1))).2) → (iv_M A σ2) → (fr_M σ σ2) → s_np A - b < f → am_Ev G mX7_change (am_R (D + 10) 0 0) 0 0 (am_qM A (.int (sp_change A 0)) σ) 41 [(0, .ref 65), (1, .int 0), (2, .int best2), (3, .int gap2), (4, .int (nI a)), (5, .int (nI b))] [] σ2 0 0 := by
              intro f
              induction f with
              | zero => intro b best2 gap2 σ2 hb2 hb3 h1b h1m hI2 hF2 hf; exact absurd hf (Nat.not_lt_zero _)
              | succ f ih_lq =>
                intro b best2 gap2 σ2 hb2 hb3 h1b h1m hI2 hF2 hf
                refine ev_iload dX7_change_41 rfl ?_
                refine ev_aload_n dX7_change_43 rfl rfl ?_
                refine ev_getI (v := nI (s_np A)) dX7_change_44 fl_X7_87 (ly_k hI2.ly 65 rfl) ((hI2.rd 65 0 rfl).trans (wf_np hA)) ?_
                refine ev_icmp_ge (tgt := 119) dX7_change_47 (by decide) (fun c4 => ?_) (fun c4 => ?_)
                · skip
                  have c4n : (s_np A) ≤ b := (nI_leI (a := (s_np A)) (b := b) (by omega) (by omega)).mp c4
                  refine ev_iinc (lv' := [(0, .ref 65), (1, .int 0), (2, .int best2), (3, .int gap2), (4, .int (nI (a + 1))), (5, .int (nI b))]) (v := nI (a + 1)) dX7_change_119 rfl (nI_1 _) (by decide) rfl ?_
                  refine ev_goto (tgt := 26) dX7_change_122 (by decide) ?_
                  refine ev_keep (lv' := [(0, .ref 65), (1, .int 0), (2, .int best2), (3, .int gap2), (4, .int (nI (a + 1)))]) [0, 1, 2, 3, 4] rfl ?_
                  exact ih (a + 1) best2 gap2 σ2 (by omega) (by have e : b = s_np A := (by omega); subst e; exact h1b) (by have e : b = s_np A := (by omega); subst e; exact h1m) hI2 hF2 (by omega)
                · skip
                  have c4n : ¬ (s_np A) ≤ b := fun zz => c4 ((nI_leI (a := (s_np A)) (b := b) (by omega) (by omega)).mpr zz)
                  refine ev_aload_n dX7_change_50 rfl rfl ?_
                  refine ev_getR (b := 69) dX7_change_51 fl_X7_19 (ly_k hI2.ly 65 rfl) (ly_r hI2.ly 32 rfl) ?_
                  refine ev_iload dX7_change_54 rfl ?_
                  refine ev_iald (v := A 69 a) dX7_change_56 (ly_k hI2.ly 69 rfl) (am_ixn (by omega) (by decide)) (hI2.rd 69 a rfl) ?_
                  refine ev_aload_n dX7_change_57 rfl rfl ?_
                  refine ev_getR (b := 69) dX7_change_58 fl_X7_19 (ly_k hI2.ly 65 rfl) (ly_r hI2.ly 32 rfl) ?_
                  refine ev_iload dX7_change_61 rfl ?_
                  refine ev_iald (v := A 69 b) dX7_change_63 (ly_k hI2.ly 69 rfl) (am_ixn (by omega) (by decide)) (hI2.rd 69 b rfl) ?_
                  refine ev_icmp_ne (tgt := 71) dX7_change_64 (by decide) (fun c5 => ?_) (fun c5 => ?_)
                  · skip
                    refine ev_aload_n dX7_change_71 rfl rfl ?_
                    refine ev_iload dX7_change_72 rfl ?_
                    refine ev_iload dX7_change_74 rfl ?_
                    refine ev_callV (as := [.int (nI a), .int (nI b)]) (st := []) dX7_change_76 mfX7_apartChanged lk_X7_251 (ly_k hI2.ly 65 rfl) (by decide) rfl (c_X7_apartChanged G D A σ2 hA hI2 a b (by omega) (by omega)) rfl rfl (Nat.le_of_ble_eq_true rfl) (am_hR (by omega) (by decide)) ⟨Nat.le_refl _, Nat.le_refl _⟩ ?_
                    rintro _ σ6 ⟨rfl, hI6, hF6⟩
                    refine ev_istore (lv' := [(0, .ref 65), (1, .int 0), (2, .int best2), (3, .int gap2), (4, .int (nI a)), (5, .int (nI b)), (6, .int (s_ac A a b))]) dX7_change_79 (by decide) rfl ?_
                    refine ev_iload dX7_change_81 rfl ?_
                    refine ev_iload_n dX7_change_83 rfl rfl ?_
                    refine ev_icmp_ge (tgt := 98) dX7_change_84 (by decide) (fun c7 => ?_) (fun c7 => ?_)
                    · skip
                      refine ev_iload_n dX7_change_98 rfl rfl ?_
                      refine ev_istore_n (lv' := [(0, .ref 65), (1, .int 0), (2, .int best2), (3, .int gap2), (4, .int (nI a)), (5, .int (nI b)), (6, .int (s_ac A a b))]) dX7_change_99 rfl (by decide) rfl ?_
                      refine ev_iload dX7_change_100 rfl ?_
                      refine ev_iload_n dX7_change_102 rfl rfl ?_
                      refine ev_icmp_ge (tgt := 111) dX7_change_103 (by decide) (fun _ => ?_) (fun c => absurd (c7) c)
                      refine ev_iload_n dX7_change_111 rfl rfl ?_
                      refine ev_istore_n (lv' := [(0, .ref 65), (1, .int 0), (2, .int best2), (3, .int gap2), (4, .int (nI a)), (5, .int (nI b)), (6, .int (s_ac A a b))]) dX7_change_112 rfl (by decide) rfl ?_
                      refine ev_iinc (lv' := [(0, .ref 65), (1, .int 0), (2, .int best2), (3, .int gap2), (4, .int (nI a)), (5, .int (nI (b + 1))), (6, .int (s_ac A a b))]) (v := nI (b + 1)) dX7_change_113 rfl (nI_1 _) (by decide) rfl ?_
                      refine ev_goto (tgt := 41) dX7_change_116 (by decide) ?_
                      refine ev_keep (lv' := [(0, .ref 65), (1, .int 0), (2, .int best2), (3, .int gap2), (4, .int (nI a)), (5, .int (nI (b + 1)))]) [0, 1, 2, 3, 4, 5] rfl ?_
                      exact ih_lq (b + 1) best2 gap2 σ6 (by omega) (by omega) (by rw [s_c1K (by omega) c5 (by rw [← h1m]; exact Int32.not_lt.mpr c7)]; exact h1b) (by rw [s_c1K (by omega) c5 (by rw [← h1m]; exact Int32.not_lt.mpr c7)]; exact h1m) hI6 (fr_M.tr hF2 hF6) (by omega)
                    · skip
                      refine ev_bipush (v := 10) dX7_change_87 (by decide) ?_
                      refine ev_iload dX7_change_89 rfl ?_
                      refine ev_imul (v := nI (10 * a)) dX7_change_91 (pk_mul 10 a) ?_
                      refine ev_iload dX7_change_92 rfl ?_
                      refine ev_iadd (v := nI (10 * a + b)) dX7_change_94 (nI_add (10 * a) b) ?_
                      refine ev_goto (tgt := 99) dX7_change_95 (by decide) ?_
                      refine ev_istore_n (lv' := [(0, .ref 65), (1, .int 0), (2, .int (nI (10 * a + b))), (3, .int gap2), (4, .int (nI a)), (5, .int (nI b)), (6, .int (s_ac A a b))]) dX7_change_99 rfl (by decide) rfl ?_
                      refine ev_iload dX7_change_100 rfl ?_
                      refine ev_iload_n dX7_change_102 rfl rfl ?_
                      refine ev_icmp_ge (tgt := 111) dX7_change_103 (by decide) (fun c => absurd c (c7)) (fun _ => ?_)
                      refine ev_iload dX7_change_106 rfl ?_
                      refine ev_goto (tgt := 112) dX7_change_108 (by decide) ?_
                      refine ev_istore_n (lv' := [(0, .ref 65), (1, .int 0), (2, .int (nI (10 * a + b))), (3, .int (s_ac A a b)), (4, .int (nI a)), (5, .int (nI b)), (6, .int (s_ac A a b))]) dX7_change_112 rfl (by decide) rfl ?_
                      refine ev_iinc (lv' := [(0, .ref 65), (1, .int 0), (2, .int (nI (10 * a + b))), (3, .int (s_ac A a b)), (4, .int (nI a)), (5, .int (nI (b + 1))), (6, .int (s_ac A a b))]) (v := nI (b + 1)) dX7_change_113 rfl (nI_1 _) (by decide) rfl ?_
                      refine ev_goto (tgt := 41) dX7_change_116 (by decide) ?_
                      refine ev_keep (lv' := [(0, .ref 65), (1, .int 0), (2, .int (nI (10 * a + b))), (3, .int (s_ac A a b)), (4, .int (nI a)), (5, .int (nI (b + 1)))]) [0, 1, 2, 3, 4, 5] rfl ?_
                      exact ih_lq (b + 1) (nI (10 * a + b)) (s_ac A a b) σ6 (by omega) (by omega) (by rw [s_c1Y (by omega) c5 (by rw [← h1m]; exact Int32.not_le.mp c7)]) (by rw [s_c1Y (by omega) c5 (by rw [← h1m]; exact Int32.not_le.mp c7)]) hI6 (fr_M.tr hF2 hF6) (by omega)
                  · skip
                    refine ev_iload_n dX7_change_67 rfl rfl ?_
                    refine ev_goto (tgt := 79) dX7_change_68 (by decide) ?_
                    refine ev_istore (lv' := [(0, .ref 65), (1, .int 0), (2, .int best2), (3, .int gap2), (4, .int (nI a)), (5, .int (nI b)), (6, .int gap2)]) dX7_change_79 (by decide) rfl ?_
                    refine ev_iload dX7_change_81 rfl ?_
                    refine ev_iload_n dX7_change_83 rfl rfl ?_
                    refine ev_icmp_ge (tgt := 98) dX7_change_84 (by decide) (fun _ => ?_) (fun c => absurd (Int32.le_refl _) c)
                    refine ev_iload_n dX7_change_98 rfl rfl ?_
                    refine ev_istore_n (lv' := [(0, .ref 65), (1, .int 0), (2, .int best2), (3, .int gap2), (4, .int (nI a)), (5, .int (nI b)), (6, .int gap2)]) dX7_change_99 rfl (by decide) rfl ?_
                    refine ev_iload dX7_change_100 rfl ?_
                    refine ev_iload_n dX7_change_102 rfl rfl ?_
                    refine ev_icmp_ge (tgt := 111) dX7_change_103 (by decide) (fun _ => ?_) (fun c => absurd (Int32.le_refl _) c)
                    refine ev_iload_n dX7_change_111 rfl rfl ?_
                    refine ev_istore_n (lv' := [(0, .ref 65), (1, .int 0), (2, .int best2), (3, .int gap2), (4, .int (nI a)), (5, .int (nI b)), (6, .int gap2)]) dX7_change_112 rfl (by decide) rfl ?_
                    refine ev_iinc (lv' := [(0, .ref 65), (1, .int 0), (2, .int best2), (3, .int gap2), (4, .int (nI a)), (5, .int (nI (b + 1))), (6, .int gap2)]) (v := nI (b + 1)) dX7_change_113 rfl (nI_1 _) (by decide) rfl ?_
                    refine ev_goto (tgt := 41) dX7_change_116 (by decide) ?_
                    refine ev_keep (lv' := [(0, .ref 65), (1, .int 0), (2, .int best2), (3, .int gap2), (4, .int (nI a)), (5, .int (nI (b + 1)))]) [0, 1, 2, 3, 4, 5] rfl ?_
                    exact ih_lq (b + 1) best2 gap2 σ2 (by omega) (by omega) (by rw [s_c1E (by omega) c5]; exact h1b) (by rw [s_c1E (by omega) c5]; exact h1m) hI2 hF2 (by omega)
            exact lq _ (a + 1) best gap σ1 (by omega) (by omega) (by rw [s_c10]; exact hb) (by rw [s_c10]; exact hm) hI hF (Nat.lt_succ_self _)
      exact lp _ 0 (-1) (s_ap A (fun q => Nat.testBit (2 ^ s_nq A - 1) q)) σ2 (by omega) rfl s_apT hI2 (fr_M.tr fr_M.rf hF2) (Nat.lt_succ_self _)
    · skip
      refine ev_if_ne (tgt := 12) dX7_change_6 (by decide) (fun _ => ?_) (fun c => absurd c (by decide))
      refine ev_iconst (v := (-1)) dX7_change_12 (by decide) ?_
      refine ev_istore_n (lv' := [(0, .ref 65), (1, .int 1), (2, .int (-1))]) dX7_change_13 rfl (by decide) rfl ?_
      refine ev_aload_n dX7_change_14 rfl rfl ?_
      refine ev_aload_n dX7_change_15 rfl rfl ?_
      refine ev_callV (as := []) (st := [.ref 65]) dX7_change_16 mfX7_all lk_X7_211 (ly_k hI.ly 65 rfl) (by decide) rfl (c_X7_all G (D + 9) A σ hA hI ) rfl rfl (Nat.le_of_ble_eq_true rfl) (am_hR (by omega) (by decide)) ⟨Nat.le_refl _, Nat.le_refl _⟩ ?_
      rintro _ _ ⟨rfl, rfl⟩
      refine ev_callV (as := [.int (nI (2 ^ s_nq A - 1))]) (st := []) dX7_change_19 mfX7_apart lk_X7_229 (ly_k hI.ly 65 rfl) (by decide) rfl (c_X7_apart G (D + 1) A σ hA hI (2 ^ s_nq A - 1) (Nat.lt_of_le_of_lt (Nat.sub_le _ _) (Nat.pow_lt_pow_right (by decide) (by omega)))) rfl rfl (Nat.le_of_ble_eq_true rfl) (am_hR (by omega) (by decide)) ⟨Nat.le_refl _, Nat.le_refl _⟩ ?_
      rintro _ σ8 ⟨rfl, hI8, hF8⟩
      refine ev_istore_n (lv' := [(0, .ref 65), (1, .int 1), (2, .int (-1)), (3, .int (s_ap A (fun q => Nat.testBit (2 ^ s_nq A - 1) q)))]) dX7_change_22 rfl (by decide) rfl ?_
      refine ev_iconst (v := 0) dX7_change_23 (by decide) ?_
      refine ev_istore (lv' := [(0, .ref 65), (1, .int 1), (2, .int (-1)), (3, .int (s_ap A (fun q => Nat.testBit (2 ^ s_nq A - 1) q))), (4, .int 0)]) dX7_change_24 (by decide) rfl ?_
      have lp : ∀ (f : Nat) (a : Nat) (best : Int32) (gap : Int32) (σ1 : am_M), (a ≤ s_np A) → (best = (s_c2 A a).1) → (gap = (s_c2 A a).2) → (iv_M A σ1) → (fr_M σ σ1) → s_np A - a < f → am_Ev G mX7_change (am_R (D + 10) 0 0) 0 0 (am_qM A (.int (sp_change A 1)) σ) 26 [(0, .ref 65), (1, .int 1), (2, .int best), (3, .int gap), (4, .int (nI a))] [] σ1 0 0 := by
        intro f
        induction f with
        | zero => intro a best gap σ1 ha hb hm hI hF hf; exact absurd hf (Nat.not_lt_zero _)
        | succ f ih =>
          intro a best gap σ1 ha hb hm hI hF hf
          refine ev_iload dX7_change_26 rfl ?_
          refine ev_aload_n dX7_change_28 rfl rfl ?_
          refine ev_getI (v := nI (s_np A)) dX7_change_29 fl_X7_87 (ly_k hI.ly 65 rfl) ((hI.rd 65 0 rfl).trans (wf_np hA)) ?_
          refine ev_icmp_ge (tgt := 125) dX7_change_32 (by decide) (fun c9 => ?_) (fun c9 => ?_)
          · skip
            have c9n : (s_np A) ≤ a := (nI_leI (a := (s_np A)) (b := a) (by omega) (by omega)).mp c9
            refine ev_iload_n dX7_change_125 rfl rfl ?_
            refine ev_if_ne (tgt := 133) dX7_change_126 (by decide) (fun _ => ?_) (fun c => absurd c (by decide))
            refine ev_iload_n dX7_change_133 rfl rfl ?_
            refine ev_reti dX7_change_134 rfl (Nat.zero_le _) (Nat.zero_le _) ?_
            have e : a = s_np A := by omega
            subst e
            exact ⟨by rw [hm]; rfl, hI, hF⟩
          · skip
            have c9n : ¬ (s_np A) ≤ a := fun zz => c9 ((nI_leI (a := (s_np A)) (b := a) (by omega) (by omega)).mpr zz)
            refine ev_iload dX7_change_35 rfl ?_
            refine ev_iconst (v := 1) dX7_change_37 (by decide) ?_
            refine ev_iadd (v := nI (a + 1)) dX7_change_38 (nI_1 _) ?_
            refine ev_istore (lv' := [(0, .ref 65), (1, .int 1), (2, .int best), (3, .int gap), (4, .int (nI a)), (5, .int (nI (a + 1)))]) dX7_change_39 (by decide) rfl ?_
            have lq : ∀ (f : Nat) (b : Nat) (best2 : Int32) (gap2 : Int32) (σ2 : am_M), (a + 1 ≤ b) → (b ≤ s_np A) → (best2 = (s_c1 A a (s_c2 A a) (b - (a + 1))).1) → (gap2 = (s_c1 A a (s_c2 A a) (b - (a + 1))).2) → (iv_M A σ2) → (fr_M σ σ2) → s_np A - b < f → am_Ev G mX7_change (am_R (D + 10) 0 0) 0 0 (am_qM A (.int (sp_change A 1)) σ) 41 [(0, .ref 65), (1, .int 1), (2, .int best2), (3, .int gap2), (4, .int (nI a)), (5, .int (nI b))] [] σ2 0 0 := by
              intro f
              induction f with
              | zero => intro b best2 gap2 σ2 hb2 hb3 h1b h1m hI2 hF2 hf; exact absurd hf (Nat.not_lt_zero _)
              | succ f ih_lq =>
                intro b best2 gap2 σ2 hb2 hb3 h1b h1m hI2 hF2 hf
                refine ev_iload dX7_change_41 rfl ?_
                refine ev_aload_n dX7_change_43 rfl rfl ?_
                refine ev_getI (v := nI (s_np A)) dX7_change_44 fl_X7_87 (ly_k hI2.ly 65 rfl) ((hI2.rd 65 0 rfl).trans (wf_np hA)) ?_
                refine ev_icmp_ge (tgt := 119) dX7_change_47 (by decide) (fun c10 => ?_) (fun c10 => ?_)
                · skip
                  have c10n : (s_np A) ≤ b := (nI_leI (a := (s_np A)) (b := b) (by omega) (by omega)).mp c10
                  refine ev_iinc (lv' := [(0, .ref 65), (1, .int 1), (2, .int best2), (3, .int gap2), (4, .int (nI (a + 1))), (5, .int (nI b))]) (v := nI (a + 1)) dX7_change_119 rfl (nI_1 _) (by decide) rfl ?_
                  refine ev_goto (tgt := 26) dX7_change_122 (by decide) ?_
                  refine ev_keep (lv' := [(0, .ref 65), (1, .int 1), (2, .int best2), (3, .int gap2), (4, .int (nI (a + 1)))]) [0, 1, 2, 3, 4] rfl ?_
                  exact ih (a + 1) best2 gap2 σ2 (by omega) (by have e : b = s_np A := (by omega); subst e; exact h1b) (by have e : b = s_np A := (by omega); subst e; exact h1m) hI2 hF2 (by omega)
                · skip
                  have c10n : ¬ (s_np A) ≤ b := fun zz => c10 ((nI_leI (a := (s_np A)) (b := b) (by omega) (by omega)).mpr zz)
                  refine ev_aload_n dX7_change_50 rfl rfl ?_
                  refine ev_getR (b := 69) dX7_change_51 fl_X7_19 (ly_k hI2.ly 65 rfl) (ly_r hI2.ly 32 rfl) ?_
                  refine ev_iload dX7_change_54 rfl ?_
                  refine ev_iald (v := A 69 a) dX7_change_56 (ly_k hI2.ly 69 rfl) (am_ixn (by omega) (by decide)) (hI2.rd 69 a rfl) ?_
                  refine ev_aload_n dX7_change_57 rfl rfl ?_
                  refine ev_getR (b := 69) dX7_change_58 fl_X7_19 (ly_k hI2.ly 65 rfl) (ly_r hI2.ly 32 rfl) ?_
                  refine ev_iload dX7_change_61 rfl ?_
                  refine ev_iald (v := A 69 b) dX7_change_63 (ly_k hI2.ly 69 rfl) (am_ixn (by omega) (by decide)) (hI2.rd 69 b rfl) ?_
                  refine ev_icmp_ne (tgt := 71) dX7_change_64 (by decide) (fun c11 => ?_) (fun c11 => ?_)
                  · skip
                    refine ev_aload_n dX7_change_71 rfl rfl ?_
                    refine ev_iload dX7_change_72 rfl ?_
                    refine ev_iload dX7_change_74 rfl ?_
                    refine ev_callV (as := [.int (nI a), .int (nI b)]) (st := []) dX7_change_76 mfX7_apartChanged lk_X7_251 (ly_k hI2.ly 65 rfl) (by decide) rfl (c_X7_apartChanged G D A σ2 hA hI2 a b (by omega) (by omega)) rfl rfl (Nat.le_of_ble_eq_true rfl) (am_hR (by omega) (by decide)) ⟨Nat.le_refl _, Nat.le_refl _⟩ ?_
                    rintro _ σ12 ⟨rfl, hI12, hF12⟩
                    refine ev_istore (lv' := [(0, .ref 65), (1, .int 1), (2, .int best2), (3, .int gap2), (4, .int (nI a)), (5, .int (nI b)), (6, .int (s_ac A a b))]) dX7_change_79 (by decide) rfl ?_
                    refine ev_iload dX7_change_81 rfl ?_
                    refine ev_iload_n dX7_change_83 rfl rfl ?_
                    refine ev_icmp_ge (tgt := 98) dX7_change_84 (by decide) (fun c13 => ?_) (fun c13 => ?_)
                    · skip
                      refine ev_iload_n dX7_change_98 rfl rfl ?_
                      refine ev_istore_n (lv' := [(0, .ref 65), (1, .int 1), (2, .int best2), (3, .int gap2), (4, .int (nI a)), (5, .int (nI b)), (6, .int (s_ac A a b))]) dX7_change_99 rfl (by decide) rfl ?_
                      refine ev_iload dX7_change_100 rfl ?_
                      refine ev_iload_n dX7_change_102 rfl rfl ?_
                      refine ev_icmp_ge (tgt := 111) dX7_change_103 (by decide) (fun _ => ?_) (fun c => absurd (c13) c)
                      refine ev_iload_n dX7_change_111 rfl rfl ?_
                      refine ev_istore_n (lv' := [(0, .ref 65), (1, .int 1), (2, .int best2), (3, .int gap2), (4, .int (nI a)), (5, .int (nI b)), (6, .int (s_ac A a b))]) dX7_change_112 rfl (by decide) rfl ?_
                      refine ev_iinc (lv' := [(0, .ref 65), (1, .int 1), (2, .int best2), (3, .int gap2), (4, .int (nI a)), (5, .int (nI (b + 1))), (6, .int (s_ac A a b))]) (v := nI (b + 1)) dX7_change_113 rfl (nI_1 _) (by decide) rfl ?_
                      refine ev_goto (tgt := 41) dX7_change_116 (by decide) ?_
                      refine ev_keep (lv' := [(0, .ref 65), (1, .int 1), (2, .int best2), (3, .int gap2), (4, .int (nI a)), (5, .int (nI (b + 1)))]) [0, 1, 2, 3, 4, 5] rfl ?_
                      exact ih_lq (b + 1) best2 gap2 σ12 (by omega) (by omega) (by rw [s_c1K (by omega) c11 (by rw [← h1m]; exact Int32.not_lt.mpr c13)]; exact h1b) (by rw [s_c1K (by omega) c11 (by rw [← h1m]; exact Int32.not_lt.mpr c13)]; exact h1m) hI12 (fr_M.tr hF2 hF12) (by omega)
                    · skip
                      refine ev_bipush (v := 10) dX7_change_87 (by decide) ?_
                      refine ev_iload dX7_change_89 rfl ?_
                      refine ev_imul (v := nI (10 * a)) dX7_change_91 (pk_mul 10 a) ?_
                      refine ev_iload dX7_change_92 rfl ?_
                      refine ev_iadd (v := nI (10 * a + b)) dX7_change_94 (nI_add (10 * a) b) ?_
                      refine ev_goto (tgt := 99) dX7_change_95 (by decide) ?_
                      refine ev_istore_n (lv' := [(0, .ref 65), (1, .int 1), (2, .int (nI (10 * a + b))), (3, .int gap2), (4, .int (nI a)), (5, .int (nI b)), (6, .int (s_ac A a b))]) dX7_change_99 rfl (by decide) rfl ?_
                      refine ev_iload dX7_change_100 rfl ?_
                      refine ev_iload_n dX7_change_102 rfl rfl ?_
                      refine ev_icmp_ge (tgt := 111) dX7_change_103 (by decide) (fun c => absurd c (c13)) (fun _ => ?_)
                      refine ev_iload dX7_change_106 rfl ?_
                      refine ev_goto (tgt := 112) dX7_change_108 (by decide) ?_
                      refine ev_istore_n (lv' := [(0, .ref 65), (1, .int 1), (2, .int (nI (10 * a + b))), (3, .int (s_ac A a b)), (4, .int (nI a)), (5, .int (nI b)), (6, .int (s_ac A a b))]) dX7_change_112 rfl (by decide) rfl ?_
                      refine ev_iinc (lv' := [(0, .ref 65), (1, .int 1), (2, .int (nI (10 * a + b))), (3, .int (s_ac A a b)), (4, .int (nI a)), (5, .int (nI (b + 1))), (6, .int (s_ac A a b))]) (v := nI (b + 1)) dX7_change_113 rfl (nI_1 _) (by decide) rfl ?_
                      refine ev_goto (tgt := 41) dX7_change_116 (by decide) ?_
                      refine ev_keep (lv' := [(0, .ref 65), (1, .int 1), (2, .int (nI (10 * a + b))), (3, .int (s_ac A a b)), (4, .int (nI a)), (5, .int (nI (b + 1)))]) [0, 1, 2, 3, 4, 5] rfl ?_
                      exact ih_lq (b + 1) (nI (10 * a + b)) (s_ac A a b) σ12 (by omega) (by omega) (by rw [s_c1Y (by omega) c11 (by rw [← h1m]; exact Int32.not_le.mp c13)]) (by rw [s_c1Y (by omega) c11 (by rw [← h1m]; exact Int32.not_le.mp c13)]) hI12 (fr_M.tr hF2 hF12) (by omega)
                  · skip
                    refine ev_iload_n dX7_change_67 rfl rfl ?_
                    refine ev_goto (tgt := 79) dX7_change_68 (by decide) ?_
                    refine ev_istore (lv' := [(0, .ref 65), (1, .int 1), (2, .int best2), (3, .int gap2), (4, .int (nI a)), (5, .int (nI b)), (6, .int gap2)]) dX7_change_79 (by decide) rfl ?_
                    refine ev_iload dX7_change_81 rfl ?_
                    refine ev_iload_n dX7_change_83 rfl rfl ?_
                    refine ev_icmp_ge (tgt := 98) dX7_change_84 (by decide) (fun _ => ?_) (fun c => absurd (Int32.le_refl _) c)
                    refine ev_iload_n dX7_change_98 rfl rfl ?_
                    refine ev_istore_n (lv' := [(0, .ref 65), (1, .int 1), (2, .int best2), (3, .int gap2), (4, .int (nI a)), (5, .int (nI b)), (6, .int gap2)]) dX7_change_99 rfl (by decide) rfl ?_
                    refine ev_iload dX7_change_100 rfl ?_
                    refine ev_iload_n dX7_change_102 rfl rfl ?_
                    refine ev_icmp_ge (tgt := 111) dX7_change_103 (by decide) (fun _ => ?_) (fun c => absurd (Int32.le_refl _) c)
                    refine ev_iload_n dX7_change_111 rfl rfl ?_
                    refine ev_istore_n (lv' := [(0, .ref 65), (1, .int 1), (2, .int best2), (3, .int gap2), (4, .int (nI a)), (5, .int (nI b)), (6, .int gap2)]) dX7_change_112 rfl (by decide) rfl ?_
                    refine ev_iinc (lv' := [(0, .ref 65), (1, .int 1), (2, .int best2), (3, .int gap2), (4, .int (nI a)), (5, .int (nI (b + 1))), (6, .int gap2)]) (v := nI (b + 1)) dX7_change_113 rfl (nI_1 _) (by decide) rfl ?_
                    refine ev_goto (tgt := 41) dX7_change_116 (by decide) ?_
                    refine ev_keep (lv' := [(0, .ref 65), (1, .int 1), (2, .int best2), (3, .int gap2), (4, .int (nI a)), (5, .int (nI (b + 1)))]) [0, 1, 2, 3, 4, 5] rfl ?_
                    exact ih_lq (b + 1) best2 gap2 σ2 (by omega) (by omega) (by rw [s_c1E (by omega) c11]; exact h1b) (by rw [s_c1E (by omega) c11]; exact h1m) hI2 hF2 (by omega)
            exact lq _ (a + 1) best gap σ1 (by omega) (by omega) (by rw [s_c10]; exact hb) (by rw [s_c10]; exact hm) hI hF (Nat.lt_succ_self _)
      exact lp _ 0 (-1) (s_ap A (fun q => Nat.testBit (2 ^ s_nq A - 1) q)) σ8 (by omega) rfl s_apT hI8 (fr_M.tr fr_M.rf hF8) (Nat.lt_succ_self _)
  · skip
    have h1r := fun q => h1 ((am_rgl (n := 2) (by decide)).mpr q)
    have hw0 := am_w1 h1r
    refine ev_if_ne (tgt := 12) dX7_change_6 (by decide) (fun c => absurd (by decide) c) (fun _ => ?_)
    refine ev_bipush (v := (-2)) dX7_change_9 (by decide) ?_
    refine ev_reti dX7_change_11 rfl (Nat.zero_le _) (Nat.zero_le _) ?_
    refine ⟨?_, hI, fr_M.rf⟩
    simp [sp_change, hw0]

set_option maxHeartbeats 400000 in
set_option maxRecDepth 100000 in
theorem c_X7_unlike (G : am_G) (D : Nat) (A : am_S) (σ : am_M) (hA : wf_A A) (hI : iv_M A σ) (s T : Nat) (hs : s < 4) : am_Mt G (D + 6) mX7_unlike [.ref 65, .int (nI s), .int (nI T)] σ 0 0 (am_qM A (.int (s_bi (s_ul A s (s_se A T)))) σ) := by
  have b7 := wf_np7 hA
  have b8 := wf_nq8 hA
  have b6 := wf_nt6 hA
  have b61 := wf_nt1 hA
  have b160 := wf_tp160 hA
  have brl := wf_rlt hA
  refine am_of moX7_unlike (Nat.le_of_ble_eq_true rfl) ?_
  show am_Ev G mX7_unlike (am_R (D + 6) 0 0) 0 0 (am_qM A (.int (s_bi (s_ul A s (s_se A T)))) σ) 0 [(0, .ref 65), (1, .int (nI s)), (2, .int (nI T))] [] σ 0 0
  have lp : ∀ (f : Nat) (q : Nat) (σ1 : am_M), (q ≤ s_nq A) → (s_ul A s (s_se A T) = s_uf A s (s_se A T) (s_nq A - q) q) → (iv_M A σ1) → (fr_M σ σ1) → s_nq A - q < f → am_Ev G mX7_unlike (am_R (D + 6) 0 0) 0 0 (am_qM A (.int (s_bi (s_ul A s (s_se A T)))) σ) 2 [(0, .ref 65), (1, .int (nI s)), (2, .int (nI T)), (3, .int (nI q))] [] σ1 0 0 := by
    intro f
    induction f with
    | zero => intro q σ1 hq hu hI hF hf; exact absurd hf (Nat.not_lt_zero _)
    | succ f ih =>
      intro q σ1 hq hu hI hF hf
      refine ev_iload_n dX7_unlike_2 rfl rfl ?_
      refine ev_aload_n dX7_unlike_3 rfl rfl ?_
      refine ev_getI (v := nI (s_nq A)) dX7_unlike_4 fl_X7_94 (ly_k hI.ly 65 rfl) ((hI.rd 65 6 rfl).trans (wf_nq hA)) ?_
      refine ev_icmp_ge (tgt := 46) dX7_unlike_7 (by decide) (fun c1 => ?_) (fun c1 => ?_)
      · skip
        have c1n : (s_nq A) ≤ q := (nI_leI (a := (s_nq A)) (b := q) (by omega) (by omega)).mp c1
        refine ev_iconst (v := (-1)) dX7_unlike_46 (by decide) ?_
        refine ev_reti dX7_unlike_47 rfl (Nat.zero_le _) (Nat.zero_le _) ?_
        exact ⟨by rw [hu, s_uf0 (by omega)]; rfl, hI, hF⟩
      · skip
        have c1n : ¬ (s_nq A) ≤ q := fun zz => c1 ((nI_leI (a := (s_nq A)) (b := q) (by omega) (by omega)).mpr zz)
        refine ev_aload_n dX7_unlike_10 rfl rfl ?_
        refine ev_getR (b := 82) dX7_unlike_11 fl_X7_58 (ly_k hI.ly 65 rfl) (ly_r hI.ly 45 rfl) ?_
        refine ev_bipush (v := 40) dX7_unlike_14 (by decide) ?_
        refine ev_iload_n dX7_unlike_16 rfl rfl ?_
        refine ev_imul (v := nI (40 * s)) dX7_unlike_17 (pk_mul 40 s) ?_
        refine ev_iload_n dX7_unlike_18 rfl rfl ?_
        refine ev_iadd (v := nI (40 * s + q)) dX7_unlike_19 (nI_add (40 * s) q) ?_
        refine ev_iald (v := A 82 (40 * s + q)) dX7_unlike_20 (ly_k hI.ly 82 rfl) (am_ixn (by omega) (by decide)) (hI.rd 82 (40 * s + q) rfl) ?_
        refine ev_aload_n dX7_unlike_21 rfl rfl ?_
        refine ev_iload_n dX7_unlike_22 rfl rfl ?_
        refine ev_iload_n dX7_unlike_23 rfl rfl ?_
        refine ev_callV (as := [.int (nI T), .int (nI q)]) (st := [.int (A 82 (40 * s + q))]) dX7_unlike_24 mfX7_isRight lk_X7_202 (ly_k hI.ly 65 rfl) (by decide) rfl (c_X7_isRight G D A σ1 hA hI T q (by omega)) rfl rfl (Nat.le_of_ble_eq_true rfl) (am_hR (by omega) (by decide)) ⟨Nat.le_refl _, Nat.le_refl _⟩ ?_
        rintro _ σ2 (⟨h2, rfl, hI2, hF2⟩ | ⟨h2, rfl, hI2, hF2⟩)
        · skip
          refine ev_if_eq (tgt := 34) dX7_unlike_27 (by decide) (fun c => absurd c (by decide)) (fun _ => ?_)
          refine ev_iconst (v := 1) dX7_unlike_30 (by decide) ?_
          refine ev_goto (tgt := 35) dX7_unlike_31 (by decide) ?_
          refine ev_icmp_eq (tgt := 40) dX7_unlike_35 (by decide) (fun c3 => ?_) (fun c3 => ?_)
          · skip
            have he : A 82 (40 * s + q) = s_b2 (s_rt A (s_se A T) q) := by rw [(h2)]; exact c3
            refine ev_iinc (lv' := [(0, .ref 65), (1, .int (nI s)), (2, .int (nI T)), (3, .int (nI (q + 1)))]) (v := nI (q + 1)) dX7_unlike_40 rfl (nI_1 _) (by decide) rfl ?_
            refine ev_goto (tgt := 2) dX7_unlike_43 (by decide) ?_
            exact ih (q + 1) σ2 (by omega) (by rw [← s_ufS (by omega) he]; exact hu) hI2 (fr_M.tr hF hF2) (by omega)
          · skip
            have he : ¬ A 82 (40 * s + q) = s_b2 (s_rt A (s_se A T) q) := by rw [(h2)]; exact c3
            refine ev_iload_n dX7_unlike_38 rfl rfl ?_
            refine ev_reti dX7_unlike_39 rfl (Nat.zero_le _) (Nat.zero_le _) ?_
            exact ⟨by rw [hu, s_ufN (by omega) he]; rfl, hI2, (fr_M.tr hF hF2)⟩
        · skip
          refine ev_if_eq (tgt := 34) dX7_unlike_27 (by decide) (fun _ => ?_) (fun c => absurd (by decide) c)
          refine ev_iconst (v := 0) dX7_unlike_34 (by decide) ?_
          refine ev_icmp_eq (tgt := 40) dX7_unlike_35 (by decide) (fun c4 => ?_) (fun c4 => ?_)
          · skip
            have he : A 82 (40 * s + q) = s_b2 (s_rt A (s_se A T) q) := by rw [(Bool.eq_false_iff.mpr h2)]; exact c4
            refine ev_iinc (lv' := [(0, .ref 65), (1, .int (nI s)), (2, .int (nI T)), (3, .int (nI (q + 1)))]) (v := nI (q + 1)) dX7_unlike_40 rfl (nI_1 _) (by decide) rfl ?_
            refine ev_goto (tgt := 2) dX7_unlike_43 (by decide) ?_
            exact ih (q + 1) σ2 (by omega) (by rw [← s_ufS (by omega) he]; exact hu) hI2 (fr_M.tr hF hF2) (by omega)
          · skip
            have he : ¬ A 82 (40 * s + q) = s_b2 (s_rt A (s_se A T) q) := by rw [(Bool.eq_false_iff.mpr h2)]; exact c4
            refine ev_iload_n dX7_unlike_38 rfl rfl ?_
            refine ev_reti dX7_unlike_39 rfl (Nat.zero_le _) (Nat.zero_le _) ?_
            exact ⟨by rw [hu, s_ufN (by omega) he]; rfl, hI2, (fr_M.tr hF hF2)⟩
  refine ev_iconst (v := 0) dX7_unlike_0 (by decide) ?_
  refine ev_istore_n (lv' := [(0, .ref 65), (1, .int (nI s)), (2, .int (nI T)), (3, .int 0)]) dX7_unlike_1 rfl (by decide) rfl ?_
  exact lp _ 0 σ (by omega) rfl hI fr_M.rf (Nat.lt_succ_self _)

set_option maxHeartbeats 400000 in
set_option maxRecDepth 100000 in
theorem c_X7_judge (G : am_G) (D : Nat) (A : am_S) (σ : am_M) (hA : wf_A A) (hI : iv_M A σ) (s t : Int32) : am_Mt G (D + 7) mX7_judge [.ref 65, .int s, .int t] σ 0 0 (am_qM A (.int (sp_judge A s t)) σ) := by
  have b7 := wf_np7 hA
  have b8 := wf_nq8 hA
  have b6 := wf_nt6 hA
  have b61 := wf_nt1 hA
  have b160 := wf_tp160 hA
  have brl := wf_rlt hA
  refine am_of moX7_judge (Nat.le_of_ble_eq_true rfl) ?_
  show am_Ev G mX7_judge (am_R (D + 7) 0 0) 0 0 (am_qM A (.int (sp_judge A s t)) σ) 0 [(0, .ref 65), (1, .int s), (2, .int t)] [] σ 0 0
  refine ev_aload_n dX7_judge_0 rfl rfl ?_
  refine ev_iload_n dX7_judge_1 rfl rfl ?_
  refine ev_callV (as := [.int s]) (st := []) dX7_judge_2 mfX7_sheetWrong lk_X7_254 (ly_k hI.ly 65 rfl) (by decide) rfl (c_X7_sheetWrong G (D + 5) A σ hA hI s) rfl rfl (Nat.le_of_ble_eq_true rfl) (am_hR (by omega) (by decide)) ⟨Nat.le_refl _, Nat.le_refl _⟩ ?_
  rintro _ _ ⟨rfl, rfl⟩
  refine ev_istore_n (lv' := [(0, .ref 65), (1, .int s), (2, .int t), (3, .int (s_wr A s))]) dX7_judge_5 rfl (by decide) rfl ?_
  refine ev_iload_n dX7_judge_6 rfl rfl ?_
  refine ev_if_eq (tgt := 12) dX7_judge_7 (by decide) (fun c1 => ?_) (fun c1 => ?_)
  · skip
    obtain ⟨js, hjs, rfl⟩ := s_wr0 c1
    refine ev_iload_n dX7_judge_12 rfl rfl ?_
    refine ev_callS (as := [.int t]) (st := []) dX7_judge_13 mfX7_isTable lk_X7_183 (c_X7_isTable G (D + 5) σ t) rfl rfl (Nat.le_of_ble_eq_true rfl) (am_hR (by omega) (by decide)) ⟨Nat.le_refl _, Nat.le_refl _⟩ ?_
    rintro _ _ (⟨⟨j2, h2, rfl⟩, rfl, rfl⟩ | ⟨h2, rfl, rfl⟩)
    · skip
      refine ev_if_eq (tgt := 28) dX7_judge_16 (by decide) (fun c => absurd c (by decide)) (fun _ => ?_)
      refine ev_aload_n dX7_judge_19 rfl rfl ?_
      refine ev_iload_n dX7_judge_20 rfl rfl ?_
      refine ev_iload_n dX7_judge_21 rfl rfl ?_
      refine ev_callV (as := [.int (nI js), .int (nI j2)]) (st := []) dX7_judge_22 mfX7_unlike lk_X7_257 (ly_k hI.ly 65 rfl) (by decide) rfl (c_X7_unlike G D A σ hA hI js j2 (by omega)) rfl rfl (Nat.le_of_ble_eq_true rfl) (am_hR (by omega) (by decide)) ⟨Nat.le_refl _, Nat.le_refl _⟩ ?_
      rintro _ σ3 ⟨rfl, hI3, hF3⟩
      refine ev_goto (tgt := 30) dX7_judge_25 (by decide) ?_
      refine ev_reti dX7_judge_30 rfl (Nat.zero_le _) (Nat.zero_le _) ?_
      refine ⟨?_, hI3, (fr_M.tr fr_M.rf hF3)⟩
      simp [sp_judge, c1, sN_n (show js < 2 ^ 31 by omega), am_inN h2 (by omega), sN_n (show j2 < 2 ^ 31 by omega)]
    · skip
      refine ev_if_eq (tgt := 28) dX7_judge_16 (by decide) (fun _ => ?_) (fun c => absurd (by decide) c)
      refine ev_bipush (v := (-5)) dX7_judge_28 (by decide) ?_
      refine ev_reti dX7_judge_30 rfl (Nat.zero_le _) (Nat.zero_le _) ?_
      refine ⟨?_, hI, fr_M.rf⟩
      simp [sp_judge, c1, sN_n (show js < 2 ^ 31 by omega), am_inF (by omega) h2]
  · skip
    refine ev_iload_n dX7_judge_10 rfl rfl ?_
    refine ev_reti dX7_judge_11 rfl (Nat.zero_le _) (Nat.zero_le _) ?_
    refine ⟨?_, hI, fr_M.rf⟩
    simp [sp_judge, c1]

set_option maxHeartbeats 400000 in
set_option maxRecDepth 100000 in
theorem c_X7_whose (G : am_G) (D : Nat) (A : am_S) (σ : am_M) (hA : wf_A A) (hI : iv_M A σ) (s : Int32) : am_Mt G (D + 7) mX7_whose [.ref 65, .int s] σ 0 0 (am_qM A (.int (sp_whose A s)) σ) := by
  have b7 := wf_np7 hA
  have b8 := wf_nq8 hA
  have b6 := wf_nt6 hA
  have b61 := wf_nt1 hA
  have b160 := wf_tp160 hA
  have brl := wf_rlt hA
  refine am_of moX7_whose (Nat.le_of_ble_eq_true rfl) ?_
  show am_Ev G mX7_whose (am_R (D + 7) 0 0) 0 0 (am_qM A (.int (sp_whose A s)) σ) 0 [(0, .ref 65), (1, .int s)] [] σ 0 0
  refine ev_aload_n dX7_whose_0 rfl rfl ?_
  refine ev_iload_n dX7_whose_1 rfl rfl ?_
  refine ev_callV (as := [.int s]) (st := []) dX7_whose_2 mfX7_sheetWrong lk_X7_254 (ly_k hI.ly 65 rfl) (by decide) rfl (c_X7_sheetWrong G (D + 5) A σ hA hI s) rfl rfl (Nat.le_of_ble_eq_true rfl) (am_hR (by omega) (by decide)) ⟨Nat.le_refl _, Nat.le_refl _⟩ ?_
  rintro _ _ ⟨rfl, rfl⟩
  refine ev_istore_n (lv' := [(0, .ref 65), (1, .int s), (2, .int (s_wr A s))]) dX7_whose_5 rfl (by decide) rfl ?_
  refine ev_iload_n dX7_whose_6 rfl rfl ?_
  refine ev_if_eq (tgt := 12) dX7_whose_7 (by decide) (fun c1 => ?_) (fun c1 => ?_)
  · skip
    obtain ⟨js, hjs, rfl⟩ := s_wr0 c1
    refine ev_iconst (v := 0) dX7_whose_12 (by decide) ?_
    refine ev_istore_n (lv' := [(0, .ref 65), (1, .int (nI js)), (2, .int (s_wr A (nI js))), (3, .int 0)]) dX7_whose_13 rfl (by decide) rfl ?_
    refine ev_iconst (v := 0) dX7_whose_14 (by decide) ?_
    refine ev_istore (lv' := [(0, .ref 65), (1, .int (nI js)), (2, .int (s_wr A (nI js))), (3, .int 0), (4, .int 0)]) dX7_whose_15 (by decide) rfl ?_
    refine ev_iload dX7_whose_17 rfl ?_
    refine ev_iconst (v := 3) dX7_whose_19 (by decide) ?_
    refine ev_icmp_ge (tgt := 51) dX7_whose_20 (by decide) (fun c => absurd c (by decide)) (fun _ => ?_)
    refine ev_iload_n dX7_whose_23 rfl rfl ?_
    refine ev_aload_n dX7_whose_24 rfl rfl ?_
    refine ev_iload_n dX7_whose_25 rfl rfl ?_
    refine ev_iload dX7_whose_26 rfl ?_
    refine ev_callV (as := [.int (nI js), .int 0]) (st := [.int 0]) dX7_whose_28 mfX7_unlike lk_X7_257 (ly_k hI.ly 65 rfl) (by decide) rfl (c_X7_unlike G D A σ hA hI js 0 (by omega)) rfl rfl (Nat.le_of_ble_eq_true rfl) (am_hR (by omega) (by decide)) ⟨Nat.le_refl _, Nat.le_refl _⟩ ?_
    rintro _ σ2 ⟨rfl, hI2, hF2⟩
    refine ev_iconst (v := (-1)) dX7_whose_31 (by decide) ?_
    refine ev_icmp_ne (tgt := 42) dX7_whose_32 (by decide) (fun c3 => ?_) (fun c3 => ?_)
    · skip
      have hw0 : ¬ s_ul A js (s_se A 0) = none := fun z => c3 ((s_ulI b8).mpr z)
      refine ev_iconst (v := 0) dX7_whose_42 (by decide) ?_
      refine ev_ior (v := 0) dX7_whose_43 (by decide) ?_
      refine ev_istore_n (lv' := [(0, .ref 65), (1, .int (nI js)), (2, .int (s_wr A (nI js))), (3, .int 0), (4, .int 0)]) dX7_whose_44 rfl (by decide) rfl ?_
      refine ev_iinc (lv' := [(0, .ref 65), (1, .int (nI js)), (2, .int (s_wr A (nI js))), (3, .int 0), (4, .int 1)]) (v := 1) dX7_whose_45 rfl (by decide) (by decide) rfl ?_
      refine ev_goto (tgt := 17) dX7_whose_48 (by decide) ?_
      refine ev_iload dX7_whose_17 rfl ?_
      refine ev_iconst (v := 3) dX7_whose_19 (by decide) ?_
      refine ev_icmp_ge (tgt := 51) dX7_whose_20 (by decide) (fun c => absurd c (by decide)) (fun _ => ?_)
      refine ev_iload_n dX7_whose_23 rfl rfl ?_
      refine ev_aload_n dX7_whose_24 rfl rfl ?_
      refine ev_iload_n dX7_whose_25 rfl rfl ?_
      refine ev_iload dX7_whose_26 rfl ?_
      refine ev_callV (as := [.int (nI js), .int 1]) (st := [.int 0]) dX7_whose_28 mfX7_unlike lk_X7_257 (ly_k hI2.ly 65 rfl) (by decide) rfl (c_X7_unlike G D A σ2 hA hI2 js 1 (by omega)) rfl rfl (Nat.le_of_ble_eq_true rfl) (am_hR (by omega) (by decide)) ⟨Nat.le_refl _, Nat.le_refl _⟩ ?_
      rintro _ σ4 ⟨rfl, hI4, hF4⟩
      refine ev_iconst (v := (-1)) dX7_whose_31 (by decide) ?_
      refine ev_icmp_ne (tgt := 42) dX7_whose_32 (by decide) (fun c5 => ?_) (fun c5 => ?_)
      · skip
        have hw1 : ¬ s_ul A js (s_se A 1) = none := fun z => c5 ((s_ulI b8).mpr z)
        refine ev_iconst (v := 0) dX7_whose_42 (by decide) ?_
        refine ev_ior (v := 0) dX7_whose_43 (by decide) ?_
        refine ev_istore_n (lv' := [(0, .ref 65), (1, .int (nI js)), (2, .int (s_wr A (nI js))), (3, .int 0), (4, .int 1)]) dX7_whose_44 rfl (by decide) rfl ?_
        refine ev_iinc (lv' := [(0, .ref 65), (1, .int (nI js)), (2, .int (s_wr A (nI js))), (3, .int 0), (4, .int 2)]) (v := 2) dX7_whose_45 rfl (by decide) (by decide) rfl ?_
        refine ev_goto (tgt := 17) dX7_whose_48 (by decide) ?_
        refine ev_iload dX7_whose_17 rfl ?_
        refine ev_iconst (v := 3) dX7_whose_19 (by decide) ?_
        refine ev_icmp_ge (tgt := 51) dX7_whose_20 (by decide) (fun c => absurd c (by decide)) (fun _ => ?_)
        refine ev_iload_n dX7_whose_23 rfl rfl ?_
        refine ev_aload_n dX7_whose_24 rfl rfl ?_
        refine ev_iload_n dX7_whose_25 rfl rfl ?_
        refine ev_iload dX7_whose_26 rfl ?_
        refine ev_callV (as := [.int (nI js), .int 2]) (st := [.int 0]) dX7_whose_28 mfX7_unlike lk_X7_257 (ly_k hI4.ly 65 rfl) (by decide) rfl (c_X7_unlike G D A σ4 hA hI4 js 2 (by omega)) rfl rfl (Nat.le_of_ble_eq_true rfl) (am_hR (by omega) (by decide)) ⟨Nat.le_refl _, Nat.le_refl _⟩ ?_
        rintro _ σ6 ⟨rfl, hI6, hF6⟩
        refine ev_iconst (v := (-1)) dX7_whose_31 (by decide) ?_
        refine ev_icmp_ne (tgt := 42) dX7_whose_32 (by decide) (fun c7 => ?_) (fun c7 => ?_)
        · skip
          have hw2 : ¬ s_ul A js (s_se A 2) = none := fun z => c7 ((s_ulI b8).mpr z)
          refine ev_iconst (v := 0) dX7_whose_42 (by decide) ?_
          refine ev_ior (v := 0) dX7_whose_43 (by decide) ?_
          refine ev_istore_n (lv' := [(0, .ref 65), (1, .int (nI js)), (2, .int (s_wr A (nI js))), (3, .int 0), (4, .int 2)]) dX7_whose_44 rfl (by decide) rfl ?_
          refine ev_iinc (lv' := [(0, .ref 65), (1, .int (nI js)), (2, .int (s_wr A (nI js))), (3, .int 0), (4, .int 3)]) (v := 3) dX7_whose_45 rfl (by decide) (by decide) rfl ?_
          refine ev_goto (tgt := 17) dX7_whose_48 (by decide) ?_
          refine ev_iload dX7_whose_17 rfl ?_
          refine ev_iconst (v := 3) dX7_whose_19 (by decide) ?_
          refine ev_icmp_ge (tgt := 51) dX7_whose_20 (by decide) (fun _ => ?_) (fun c => absurd (by decide) c)
          refine ev_iload_n dX7_whose_51 rfl rfl ?_
          refine ev_reti dX7_whose_52 rfl (Nat.zero_le _) (Nat.zero_le _) ?_
          refine ⟨?_, hI6, (fr_M.tr (fr_M.tr (fr_M.tr fr_M.rf hF2) hF4) hF6)⟩
          have e : mk_m (fun t => decide (s_ul A js (s_se A t) = none)) 3 = 0 := by simp [mk_m, hw0, hw1, hw2]
          simp [sp_whose, c1, sN_n (show js < 2 ^ 31 by omega), e]
          try rfl
        · skip
          have hw2 : s_ul A js (s_se A 2) = none := (s_ulI b8).mp c7
          refine ev_iconst (v := 1) dX7_whose_35 (by decide) ?_
          refine ev_iload dX7_whose_36 rfl ?_
          refine ev_ishl (v := 4) dX7_whose_38 (by decide) ?_
          refine ev_goto (tgt := 43) dX7_whose_39 (by decide) ?_
          refine ev_ior (v := 4) dX7_whose_43 (by decide) ?_
          refine ev_istore_n (lv' := [(0, .ref 65), (1, .int (nI js)), (2, .int (s_wr A (nI js))), (3, .int 4), (4, .int 2)]) dX7_whose_44 rfl (by decide) rfl ?_
          refine ev_iinc (lv' := [(0, .ref 65), (1, .int (nI js)), (2, .int (s_wr A (nI js))), (3, .int 4), (4, .int 3)]) (v := 3) dX7_whose_45 rfl (by decide) (by decide) rfl ?_
          refine ev_goto (tgt := 17) dX7_whose_48 (by decide) ?_
          refine ev_iload dX7_whose_17 rfl ?_
          refine ev_iconst (v := 3) dX7_whose_19 (by decide) ?_
          refine ev_icmp_ge (tgt := 51) dX7_whose_20 (by decide) (fun _ => ?_) (fun c => absurd (by decide) c)
          refine ev_iload_n dX7_whose_51 rfl rfl ?_
          refine ev_reti dX7_whose_52 rfl (Nat.zero_le _) (Nat.zero_le _) ?_
          refine ⟨?_, hI6, (fr_M.tr (fr_M.tr (fr_M.tr fr_M.rf hF2) hF4) hF6)⟩
          have e : mk_m (fun t => decide (s_ul A js (s_se A t) = none)) 3 = 4 := by simp [mk_m, hw0, hw1, hw2]
          simp [sp_whose, c1, sN_n (show js < 2 ^ 31 by omega), e]
          try rfl
      · skip
        have hw1 : s_ul A js (s_se A 1) = none := (s_ulI b8).mp c5
        refine ev_iconst (v := 1) dX7_whose_35 (by decide) ?_
        refine ev_iload dX7_whose_36 rfl ?_
        refine ev_ishl (v := 2) dX7_whose_38 (by decide) ?_
        refine ev_goto (tgt := 43) dX7_whose_39 (by decide) ?_
        refine ev_ior (v := 2) dX7_whose_43 (by decide) ?_
        refine ev_istore_n (lv' := [(0, .ref 65), (1, .int (nI js)), (2, .int (s_wr A (nI js))), (3, .int 2), (4, .int 1)]) dX7_whose_44 rfl (by decide) rfl ?_
        refine ev_iinc (lv' := [(0, .ref 65), (1, .int (nI js)), (2, .int (s_wr A (nI js))), (3, .int 2), (4, .int 2)]) (v := 2) dX7_whose_45 rfl (by decide) (by decide) rfl ?_
        refine ev_goto (tgt := 17) dX7_whose_48 (by decide) ?_
        refine ev_iload dX7_whose_17 rfl ?_
        refine ev_iconst (v := 3) dX7_whose_19 (by decide) ?_
        refine ev_icmp_ge (tgt := 51) dX7_whose_20 (by decide) (fun c => absurd c (by decide)) (fun _ => ?_)
        refine ev_iload_n dX7_whose_23 rfl rfl ?_
        refine ev_aload_n dX7_whose_24 rfl rfl ?_
        refine ev_iload_n dX7_whose_25 rfl rfl ?_
        refine ev_iload dX7_whose_26 rfl ?_
        refine ev_callV (as := [.int (nI js), .int 2]) (st := [.int 2]) dX7_whose_28 mfX7_unlike lk_X7_257 (ly_k hI4.ly 65 rfl) (by decide) rfl (c_X7_unlike G D A σ4 hA hI4 js 2 (by omega)) rfl rfl (Nat.le_of_ble_eq_true rfl) (am_hR (by omega) (by decide)) ⟨Nat.le_refl _, Nat.le_refl _⟩ ?_
        rintro _ σ8 ⟨rfl, hI8, hF8⟩
        refine ev_iconst (v := (-1)) dX7_whose_31 (by decide) ?_
        refine ev_icmp_ne (tgt := 42) dX7_whose_32 (by decide) (fun c9 => ?_) (fun c9 => ?_)
        · skip
          have hw2 : ¬ s_ul A js (s_se A 2) = none := fun z => c9 ((s_ulI b8).mpr z)
          refine ev_iconst (v := 0) dX7_whose_42 (by decide) ?_
          refine ev_ior (v := 2) dX7_whose_43 (by decide) ?_
          refine ev_istore_n (lv' := [(0, .ref 65), (1, .int (nI js)), (2, .int (s_wr A (nI js))), (3, .int 2), (4, .int 2)]) dX7_whose_44 rfl (by decide) rfl ?_
          refine ev_iinc (lv' := [(0, .ref 65), (1, .int (nI js)), (2, .int (s_wr A (nI js))), (3, .int 2), (4, .int 3)]) (v := 3) dX7_whose_45 rfl (by decide) (by decide) rfl ?_
          refine ev_goto (tgt := 17) dX7_whose_48 (by decide) ?_
          refine ev_iload dX7_whose_17 rfl ?_
          refine ev_iconst (v := 3) dX7_whose_19 (by decide) ?_
          refine ev_icmp_ge (tgt := 51) dX7_whose_20 (by decide) (fun _ => ?_) (fun c => absurd (by decide) c)
          refine ev_iload_n dX7_whose_51 rfl rfl ?_
          refine ev_reti dX7_whose_52 rfl (Nat.zero_le _) (Nat.zero_le _) ?_
          refine ⟨?_, hI8, (fr_M.tr (fr_M.tr (fr_M.tr fr_M.rf hF2) hF4) hF8)⟩
          have e : mk_m (fun t => decide (s_ul A js (s_se A t) = none)) 3 = 2 := by simp [mk_m, hw0, hw1, hw2]
          simp [sp_whose, c1, sN_n (show js < 2 ^ 31 by omega), e]
          try rfl
        · skip
          have hw2 : s_ul A js (s_se A 2) = none := (s_ulI b8).mp c9
          refine ev_iconst (v := 1) dX7_whose_35 (by decide) ?_
          refine ev_iload dX7_whose_36 rfl ?_
          refine ev_ishl (v := 4) dX7_whose_38 (by decide) ?_
          refine ev_goto (tgt := 43) dX7_whose_39 (by decide) ?_
          refine ev_ior (v := 6) dX7_whose_43 (by decide) ?_
          refine ev_istore_n (lv' := [(0, .ref 65), (1, .int (nI js)), (2, .int (s_wr A (nI js))), (3, .int 6), (4, .int 2)]) dX7_whose_44 rfl (by decide) rfl ?_
          refine ev_iinc (lv' := [(0, .ref 65), (1, .int (nI js)), (2, .int (s_wr A (nI js))), (3, .int 6), (4, .int 3)]) (v := 3) dX7_whose_45 rfl (by decide) (by decide) rfl ?_
          refine ev_goto (tgt := 17) dX7_whose_48 (by decide) ?_
          refine ev_iload dX7_whose_17 rfl ?_
          refine ev_iconst (v := 3) dX7_whose_19 (by decide) ?_
          refine ev_icmp_ge (tgt := 51) dX7_whose_20 (by decide) (fun _ => ?_) (fun c => absurd (by decide) c)
          refine ev_iload_n dX7_whose_51 rfl rfl ?_
          refine ev_reti dX7_whose_52 rfl (Nat.zero_le _) (Nat.zero_le _) ?_
          refine ⟨?_, hI8, (fr_M.tr (fr_M.tr (fr_M.tr fr_M.rf hF2) hF4) hF8)⟩
          have e : mk_m (fun t => decide (s_ul A js (s_se A t) = none)) 3 = 6 := by simp [mk_m, hw0, hw1, hw2]
          simp [sp_whose, c1, sN_n (show js < 2 ^ 31 by omega), e]
          try rfl
    · skip
      have hw0 : s_ul A js (s_se A 0) = none := (s_ulI b8).mp c3
      refine ev_iconst (v := 1) dX7_whose_35 (by decide) ?_
      refine ev_iload dX7_whose_36 rfl ?_
      refine ev_ishl (v := 1) dX7_whose_38 (by decide) ?_
      refine ev_goto (tgt := 43) dX7_whose_39 (by decide) ?_
      refine ev_ior (v := 1) dX7_whose_43 (by decide) ?_
      refine ev_istore_n (lv' := [(0, .ref 65), (1, .int (nI js)), (2, .int (s_wr A (nI js))), (3, .int 1), (4, .int 0)]) dX7_whose_44 rfl (by decide) rfl ?_
      refine ev_iinc (lv' := [(0, .ref 65), (1, .int (nI js)), (2, .int (s_wr A (nI js))), (3, .int 1), (4, .int 1)]) (v := 1) dX7_whose_45 rfl (by decide) (by decide) rfl ?_
      refine ev_goto (tgt := 17) dX7_whose_48 (by decide) ?_
      refine ev_iload dX7_whose_17 rfl ?_
      refine ev_iconst (v := 3) dX7_whose_19 (by decide) ?_
      refine ev_icmp_ge (tgt := 51) dX7_whose_20 (by decide) (fun c => absurd c (by decide)) (fun _ => ?_)
      refine ev_iload_n dX7_whose_23 rfl rfl ?_
      refine ev_aload_n dX7_whose_24 rfl rfl ?_
      refine ev_iload_n dX7_whose_25 rfl rfl ?_
      refine ev_iload dX7_whose_26 rfl ?_
      refine ev_callV (as := [.int (nI js), .int 1]) (st := [.int 1]) dX7_whose_28 mfX7_unlike lk_X7_257 (ly_k hI2.ly 65 rfl) (by decide) rfl (c_X7_unlike G D A σ2 hA hI2 js 1 (by omega)) rfl rfl (Nat.le_of_ble_eq_true rfl) (am_hR (by omega) (by decide)) ⟨Nat.le_refl _, Nat.le_refl _⟩ ?_
      rintro _ σ10 ⟨rfl, hI10, hF10⟩
      refine ev_iconst (v := (-1)) dX7_whose_31 (by decide) ?_
      refine ev_icmp_ne (tgt := 42) dX7_whose_32 (by decide) (fun c11 => ?_) (fun c11 => ?_)
      · skip
        have hw1 : ¬ s_ul A js (s_se A 1) = none := fun z => c11 ((s_ulI b8).mpr z)
        refine ev_iconst (v := 0) dX7_whose_42 (by decide) ?_
        refine ev_ior (v := 1) dX7_whose_43 (by decide) ?_
        refine ev_istore_n (lv' := [(0, .ref 65), (1, .int (nI js)), (2, .int (s_wr A (nI js))), (3, .int 1), (4, .int 1)]) dX7_whose_44 rfl (by decide) rfl ?_
        refine ev_iinc (lv' := [(0, .ref 65), (1, .int (nI js)), (2, .int (s_wr A (nI js))), (3, .int 1), (4, .int 2)]) (v := 2) dX7_whose_45 rfl (by decide) (by decide) rfl ?_
        refine ev_goto (tgt := 17) dX7_whose_48 (by decide) ?_
        refine ev_iload dX7_whose_17 rfl ?_
        refine ev_iconst (v := 3) dX7_whose_19 (by decide) ?_
        refine ev_icmp_ge (tgt := 51) dX7_whose_20 (by decide) (fun c => absurd c (by decide)) (fun _ => ?_)
        refine ev_iload_n dX7_whose_23 rfl rfl ?_
        refine ev_aload_n dX7_whose_24 rfl rfl ?_
        refine ev_iload_n dX7_whose_25 rfl rfl ?_
        refine ev_iload dX7_whose_26 rfl ?_
        refine ev_callV (as := [.int (nI js), .int 2]) (st := [.int 1]) dX7_whose_28 mfX7_unlike lk_X7_257 (ly_k hI10.ly 65 rfl) (by decide) rfl (c_X7_unlike G D A σ10 hA hI10 js 2 (by omega)) rfl rfl (Nat.le_of_ble_eq_true rfl) (am_hR (by omega) (by decide)) ⟨Nat.le_refl _, Nat.le_refl _⟩ ?_
        rintro _ σ12 ⟨rfl, hI12, hF12⟩
        refine ev_iconst (v := (-1)) dX7_whose_31 (by decide) ?_
        refine ev_icmp_ne (tgt := 42) dX7_whose_32 (by decide) (fun c13 => ?_) (fun c13 => ?_)
        · skip
          have hw2 : ¬ s_ul A js (s_se A 2) = none := fun z => c13 ((s_ulI b8).mpr z)
          refine ev_iconst (v := 0) dX7_whose_42 (by decide) ?_
          refine ev_ior (v := 1) dX7_whose_43 (by decide) ?_
          refine ev_istore_n (lv' := [(0, .ref 65), (1, .int (nI js)), (2, .int (s_wr A (nI js))), (3, .int 1), (4, .int 2)]) dX7_whose_44 rfl (by decide) rfl ?_
          refine ev_iinc (lv' := [(0, .ref 65), (1, .int (nI js)), (2, .int (s_wr A (nI js))), (3, .int 1), (4, .int 3)]) (v := 3) dX7_whose_45 rfl (by decide) (by decide) rfl ?_
          refine ev_goto (tgt := 17) dX7_whose_48 (by decide) ?_
          refine ev_iload dX7_whose_17 rfl ?_
          refine ev_iconst (v := 3) dX7_whose_19 (by decide) ?_
          refine ev_icmp_ge (tgt := 51) dX7_whose_20 (by decide) (fun _ => ?_) (fun c => absurd (by decide) c)
          refine ev_iload_n dX7_whose_51 rfl rfl ?_
          refine ev_reti dX7_whose_52 rfl (Nat.zero_le _) (Nat.zero_le _) ?_
          refine ⟨?_, hI12, (fr_M.tr (fr_M.tr (fr_M.tr fr_M.rf hF2) hF10) hF12)⟩
          have e : mk_m (fun t => decide (s_ul A js (s_se A t) = none)) 3 = 1 := by simp [mk_m, hw0, hw1, hw2]
          simp [sp_whose, c1, sN_n (show js < 2 ^ 31 by omega), e]
          try rfl
        · skip
          have hw2 : s_ul A js (s_se A 2) = none := (s_ulI b8).mp c13
          refine ev_iconst (v := 1) dX7_whose_35 (by decide) ?_
          refine ev_iload dX7_whose_36 rfl ?_
          refine ev_ishl (v := 4) dX7_whose_38 (by decide) ?_
          refine ev_goto (tgt := 43) dX7_whose_39 (by decide) ?_
          refine ev_ior (v := 5) dX7_whose_43 (by decide) ?_
          refine ev_istore_n (lv' := [(0, .ref 65), (1, .int (nI js)), (2, .int (s_wr A (nI js))), (3, .int 5), (4, .int 2)]) dX7_whose_44 rfl (by decide) rfl ?_
          refine ev_iinc (lv' := [(0, .ref 65), (1, .int (nI js)), (2, .int (s_wr A (nI js))), (3, .int 5), (4, .int 3)]) (v := 3) dX7_whose_45 rfl (by decide) (by decide) rfl ?_
          refine ev_goto (tgt := 17) dX7_whose_48 (by decide) ?_
          refine ev_iload dX7_whose_17 rfl ?_
          refine ev_iconst (v := 3) dX7_whose_19 (by decide) ?_
          refine ev_icmp_ge (tgt := 51) dX7_whose_20 (by decide) (fun _ => ?_) (fun c => absurd (by decide) c)
          refine ev_iload_n dX7_whose_51 rfl rfl ?_
          refine ev_reti dX7_whose_52 rfl (Nat.zero_le _) (Nat.zero_le _) ?_
          refine ⟨?_, hI12, (fr_M.tr (fr_M.tr (fr_M.tr fr_M.rf hF2) hF10) hF12)⟩
          have e : mk_m (fun t => decide (s_ul A js (s_se A t) = none)) 3 = 5 := by simp [mk_m, hw0, hw1, hw2]
          simp [sp_whose, c1, sN_n (show js < 2 ^ 31 by omega), e]
          try rfl
      · skip
        have hw1 : s_ul A js (s_se A 1) = none := (s_ulI b8).mp c11
        refine ev_iconst (v := 1) dX7_whose_35 (by decide) ?_
        refine ev_iload dX7_whose_36 rfl ?_
        refine ev_ishl (v := 2) dX7_whose_38 (by decide) ?_
        refine ev_goto (tgt := 43) dX7_whose_39 (by decide) ?_
        refine ev_ior (v := 3) dX7_whose_43 (by decide) ?_
        refine ev_istore_n (lv' := [(0, .ref 65), (1, .int (nI js)), (2, .int (s_wr A (nI js))), (3, .int 3), (4, .int 1)]) dX7_whose_44 rfl (by decide) rfl ?_
        refine ev_iinc (lv' := [(0, .ref 65), (1, .int (nI js)), (2, .int (s_wr A (nI js))), (3, .int 3), (4, .int 2)]) (v := 2) dX7_whose_45 rfl (by decide) (by decide) rfl ?_
        refine ev_goto (tgt := 17) dX7_whose_48 (by decide) ?_
        refine ev_iload dX7_whose_17 rfl ?_
        refine ev_iconst (v := 3) dX7_whose_19 (by decide) ?_
        refine ev_icmp_ge (tgt := 51) dX7_whose_20 (by decide) (fun c => absurd c (by decide)) (fun _ => ?_)
        refine ev_iload_n dX7_whose_23 rfl rfl ?_
        refine ev_aload_n dX7_whose_24 rfl rfl ?_
        refine ev_iload_n dX7_whose_25 rfl rfl ?_
        refine ev_iload dX7_whose_26 rfl ?_
        refine ev_callV (as := [.int (nI js), .int 2]) (st := [.int 3]) dX7_whose_28 mfX7_unlike lk_X7_257 (ly_k hI10.ly 65 rfl) (by decide) rfl (c_X7_unlike G D A σ10 hA hI10 js 2 (by omega)) rfl rfl (Nat.le_of_ble_eq_true rfl) (am_hR (by omega) (by decide)) ⟨Nat.le_refl _, Nat.le_refl _⟩ ?_
        rintro _ σ14 ⟨rfl, hI14, hF14⟩
        refine ev_iconst (v := (-1)) dX7_whose_31 (by decide) ?_
        refine ev_icmp_ne (tgt := 42) dX7_whose_32 (by decide) (fun c15 => ?_) (fun c15 => ?_)
        · skip
          have hw2 : ¬ s_ul A js (s_se A 2) = none := fun z => c15 ((s_ulI b8).mpr z)
          refine ev_iconst (v := 0) dX7_whose_42 (by decide) ?_
          refine ev_ior (v := 3) dX7_whose_43 (by decide) ?_
          refine ev_istore_n (lv' := [(0, .ref 65), (1, .int (nI js)), (2, .int (s_wr A (nI js))), (3, .int 3), (4, .int 2)]) dX7_whose_44 rfl (by decide) rfl ?_
          refine ev_iinc (lv' := [(0, .ref 65), (1, .int (nI js)), (2, .int (s_wr A (nI js))), (3, .int 3), (4, .int 3)]) (v := 3) dX7_whose_45 rfl (by decide) (by decide) rfl ?_
          refine ev_goto (tgt := 17) dX7_whose_48 (by decide) ?_
          refine ev_iload dX7_whose_17 rfl ?_
          refine ev_iconst (v := 3) dX7_whose_19 (by decide) ?_
          refine ev_icmp_ge (tgt := 51) dX7_whose_20 (by decide) (fun _ => ?_) (fun c => absurd (by decide) c)
          refine ev_iload_n dX7_whose_51 rfl rfl ?_
          refine ev_reti dX7_whose_52 rfl (Nat.zero_le _) (Nat.zero_le _) ?_
          refine ⟨?_, hI14, (fr_M.tr (fr_M.tr (fr_M.tr fr_M.rf hF2) hF10) hF14)⟩
          have e : mk_m (fun t => decide (s_ul A js (s_se A t) = none)) 3 = 3 := by simp [mk_m, hw0, hw1, hw2]
          simp [sp_whose, c1, sN_n (show js < 2 ^ 31 by omega), e]
          try rfl
        · skip
          have hw2 : s_ul A js (s_se A 2) = none := (s_ulI b8).mp c15
          refine ev_iconst (v := 1) dX7_whose_35 (by decide) ?_
          refine ev_iload dX7_whose_36 rfl ?_
          refine ev_ishl (v := 4) dX7_whose_38 (by decide) ?_
          refine ev_goto (tgt := 43) dX7_whose_39 (by decide) ?_
          refine ev_ior (v := 7) dX7_whose_43 (by decide) ?_
          refine ev_istore_n (lv' := [(0, .ref 65), (1, .int (nI js)), (2, .int (s_wr A (nI js))), (3, .int 7), (4, .int 2)]) dX7_whose_44 rfl (by decide) rfl ?_
          refine ev_iinc (lv' := [(0, .ref 65), (1, .int (nI js)), (2, .int (s_wr A (nI js))), (3, .int 7), (4, .int 3)]) (v := 3) dX7_whose_45 rfl (by decide) (by decide) rfl ?_
          refine ev_goto (tgt := 17) dX7_whose_48 (by decide) ?_
          refine ev_iload dX7_whose_17 rfl ?_
          refine ev_iconst (v := 3) dX7_whose_19 (by decide) ?_
          refine ev_icmp_ge (tgt := 51) dX7_whose_20 (by decide) (fun _ => ?_) (fun c => absurd (by decide) c)
          refine ev_iload_n dX7_whose_51 rfl rfl ?_
          refine ev_reti dX7_whose_52 rfl (Nat.zero_le _) (Nat.zero_le _) ?_
          refine ⟨?_, hI14, (fr_M.tr (fr_M.tr (fr_M.tr fr_M.rf hF2) hF10) hF14)⟩
          have e : mk_m (fun t => decide (s_ul A js (s_se A t) = none)) 3 = 7 := by simp [mk_m, hw0, hw1, hw2]
          simp [sp_whose, c1, sN_n (show js < 2 ^ 31 by omega), e]
          try rfl
  · skip
    refine ev_iload_n dX7_whose_10 rfl rfl ?_
    refine ev_reti dX7_whose_11 rfl (Nat.zero_le _) (Nat.zero_le _) ?_
    refine ⟨?_, hI, fr_M.rf⟩
    simp [sp_whose, c1]

