/-! the reference: words and tokens -/
theorem lx_wfS {b : Nat → Int32} {p q w : Nat} (h : w < 12) (hm : lx_m b p q w = false) : lx_wf b p q (12 - w) w = lx_wf b p q (12 - (w + 1)) (w + 1) := by
  rw [show 12 - w = (12 - (w + 1)) + 1 by omega]
  exact if_neg (by rw [hm]; decide)
theorem lx_wfE {b : Nat → Int32} {p q w : Nat} (h : w < 12) (hm : lx_m b p q w = true) : lx_wf b p q (12 - w) w = w := by
  rw [show 12 - w = (12 - (w + 1)) + 1 by omega]
  exact if_pos hm
theorem lx_maF {b : Nat → Int32} {p q w i : Nat} (h : lx_ma b p q w i = false) : ∀ {j : Nat}, i ≤ j → lx_ma b p q w j = false := by
  intro j
  induction j with
  | zero => intro hj; rw [show i = 0 by omega] at h; exact h
  | succ j ih =>
    intro hj
    rcases Nat.lt_or_ge i (j + 1) with q1 | q1
    · show (lx_ma b p q w j && _) = false
      rw [ih (by omega), Bool.false_and]
    · rw [show j + 1 = i by omega]; exact h
theorem lx_maS {b : Nat → Int32} {p q w i : Nat} (h : lx_ma b p q w i = true) (e : lx_W (8 * w + i) = if p + i < q then b (p + i) else 32) : lx_ma b p q w (i + 1) = true := by
  show (lx_ma b p q w i && decide _) = true
  rw [h, decide_eq_true e]
  rfl
theorem lx_maN {b : Nat → Int32} {p q w i : Nat} (e : ¬ lx_W (8 * w + i) = if p + i < q then b (p + i) else 32) : lx_ma b p q w (i + 1) = false := by
  show (lx_ma b p q w i && decide _) = false
  rw [decide_eq_false e, Bool.and_false]
def wo_A (A : am_S) : Prop := ∀ i, i < 96 → A 84 i = lx_W i
/-- what the reader of a text needs -/
def wf_T (A : am_S) : Prop := (A 65 11 = nI (s_tp A) ∧ s_tp A ≤ 160) ∧ (A 65 14 = nI (s_nt A) ∧ s_nt A ≤ 6) ∧ ∀ i, i < s_tp A → am_rg (A 74 i) 256
theorem wt_tp {A : am_S} (h : wf_T A) : A 65 11 = nI (s_tp A) := h.1.1
theorem wt_160 {A : am_S} (h : wf_T A) : s_tp A ≤ 160 := h.1.2
theorem wt_nt {A : am_S} (h : wf_T A) : A 65 14 = nI (s_nt A) := h.2.1.1
theorem wt_6 {A : am_S} (h : wf_T A) : s_nt A ≤ 6 := h.2.1.2
theorem wf_A.T {A : am_S} (h : wf_A A) : wf_T A := ⟨h.2.2.1, ⟨h.2.2.2.1.1, h.2.2.2.1.2.2⟩, h.2.2.2.2.2.2.2.2.1⟩
set_option maxHeartbeats 400000 in
set_option maxRecDepth 100000 in
theorem c_X7_wordFrom (G : am_G) (D : Nat) (A : am_S) (σ : am_M) (hA : wf_T A) (hI : iv_M A σ) (hW : wo_A A) (p q : Nat) (hpq : p ≤ q) (hq : q ≤ s_tp A) : am_Mt G D mX7_wordFrom [.ref 65, .int (nI p), .int (nI q)] σ 0 0 (am_q (.int (nI (lx_wi (A 74) p q))) σ) := by
  have b6 := wt_6 hA
  have b160 := wt_160 hA
  refine am_of moX7_wordFrom (Nat.le_of_ble_eq_true rfl) ?_
  show am_Ev G mX7_wordFrom (am_R D 0 0) 0 0 (am_q (.int (nI (lx_wi (A 74) p q))) σ) 0 [(0, .ref 65), (1, .int (nI p)), (2, .int (nI q))] [] σ 0 0
  have lp : ∀ (f : Nat) (w : Nat), (w ≤ 12) → (lx_wi (A 74) p q = lx_wf (A 74) p q (12 - w) w) → 12 - w < f → am_Ev G mX7_wordFrom (am_R D 0 0) 0 0 (am_q (.int (nI (lx_wi (A 74) p q))) σ) 2 [(0, .ref 65), (1, .int (nI p)), (2, .int (nI q)), (3, .int (nI w))] [] σ 0 0 := by
    intro f
    induction f with
    | zero => intro w hw he hf; exact absurd hf (Nat.not_lt_zero _)
    | succ f ih =>
      intro w hw he hf
      refine ev_iload_n dX7_wordFrom_2 rfl rfl ?_
      refine ev_bipush (v := 12) dX7_wordFrom_3 (by decide) ?_
      refine ev_icmp_ge (tgt := 101) dX7_wordFrom_5 (by decide) (fun c1 => ?_) (fun c1 => ?_)
      · skip
        have c1n : 12 ≤ w := (nI_leI (a := 12) (b := w) (by omega) (by omega)).mp c1
        refine ev_bipush (v := 12) dX7_wordFrom_101 (by decide) ?_
        refine ev_reti dX7_wordFrom_103 rfl (Nat.zero_le _) (Nat.zero_le _) ?_
        have e : w = 12 := by omega
        subst e
        exact ⟨by rw [he]; rfl, rfl⟩
      · skip
        have c1n : ¬ 12 ≤ w := fun zz => c1 ((nI_leI (a := 12) (b := w) (by omega) (by omega)).mpr zz)
        refine ev_iload_n dX7_wordFrom_8 rfl rfl ?_
        refine ev_iload_n dX7_wordFrom_9 rfl rfl ?_
        refine ev_isub (v := nI (q - p)) dX7_wordFrom_10 (pk_sub (by omega)) ?_
        refine ev_bipush (v := 8) dX7_wordFrom_11 (by decide) ?_
        refine ev_icmp_gt (tgt := 20) dX7_wordFrom_13 (by decide) (fun c2 => ?_) (fun c2 => ?_)
        · skip
          have c2n : 8 < (q - p) := (nI_ltI (a := 8) (b := (q - p)) (by omega) (by omega)).mp c2
          refine ev_iconst (v := 0) dX7_wordFrom_20 (by decide) ?_
          refine ev_istore (lv' := [(0, .ref 65), (1, .int (nI p)), (2, .int (nI q)), (3, .int (nI w)), (4, .int 0)]) dX7_wordFrom_21 (by decide) rfl ?_
          refine ev_iconst (v := 0) dX7_wordFrom_23 (by decide) ?_
          refine ev_istore (lv' := [(0, .ref 65), (1, .int (nI p)), (2, .int (nI q)), (3, .int (nI w)), (4, .int 0), (5, .int 0)]) dX7_wordFrom_24 (by decide) rfl ?_
          refine ev_iload dX7_wordFrom_26 rfl ?_
          refine ev_bipush (v := 8) dX7_wordFrom_28 (by decide) ?_
          refine ev_icmp_ge (tgt := 88) dX7_wordFrom_30 (by decide) (fun c => absurd c (by decide)) (fun _ => ?_)
          refine ev_iload dX7_wordFrom_33 rfl ?_
          refine ev_if_eq (tgt := 88) dX7_wordFrom_35 (by decide) (fun _ => ?_) (fun c => absurd (by decide) c)
          refine ev_iload dX7_wordFrom_88 rfl ?_
          refine ev_if_eq (tgt := 95) dX7_wordFrom_90 (by decide) (fun _ => ?_) (fun c => absurd (by decide) c)
          refine ev_iinc (lv' := [(0, .ref 65), (1, .int (nI p)), (2, .int (nI q)), (3, .int (nI (w + 1))), (4, .int 0), (5, .int 0)]) (v := nI (w + 1)) dX7_wordFrom_95 rfl (nI_1 _) (by decide) rfl ?_
          refine ev_goto (tgt := 2) dX7_wordFrom_98 (by decide) ?_
          refine ev_keep (lv' := [(0, .ref 65), (1, .int (nI p)), (2, .int (nI q)), (3, .int (nI (w + 1)))]) [0, 1, 2, 3] rfl ?_
          exact ih (w + 1) (by omega) (by rw [← lx_wfS (by omega) (by unfold lx_m; rw [decide_eq_false (by omega), Bool.false_and])]; exact he) (by omega)
        · skip
          have c2n : ¬ 8 < (q - p) := fun zz => c2 ((nI_ltI (a := 8) (b := (q - p)) (by omega) (by omega)).mpr zz)
          refine ev_iconst (v := 1) dX7_wordFrom_16 (by decide) ?_
          refine ev_goto (tgt := 21) dX7_wordFrom_17 (by decide) ?_
          refine ev_istore (lv' := [(0, .ref 65), (1, .int (nI p)), (2, .int (nI q)), (3, .int (nI w)), (4, .int 1)]) dX7_wordFrom_21 (by decide) rfl ?_
          refine ev_iconst (v := 0) dX7_wordFrom_23 (by decide) ?_
          refine ev_istore (lv' := [(0, .ref 65), (1, .int (nI p)), (2, .int (nI q)), (3, .int (nI w)), (4, .int 1), (5, .int 0)]) dX7_wordFrom_24 (by decide) rfl ?_
          have lq : ∀ (f : Nat) (i : Nat), (i ≤ 8) → (lx_ma (A 74) p q w i = true) → 8 - i < f → am_Ev G mX7_wordFrom (am_R D 0 0) 0 0 (am_q (.int (nI (lx_wi (A 74) p q))) σ) 26 [(0, .ref 65), (1, .int (nI p)), (2, .int (nI q)), (3, .int (nI w)), (4, .int 1), (5, .int (nI i))] [] σ 0 0 := by
            intro f
            induction f with
            | zero => intro i hi hm hf; exact absurd hf (Nat.not_lt_zero _)
            | succ f ih_lq =>
              intro i hi hm hf
              refine ev_iload dX7_wordFrom_26 rfl ?_
              refine ev_bipush (v := 8) dX7_wordFrom_28 (by decide) ?_
              refine ev_icmp_ge (tgt := 88) dX7_wordFrom_30 (by decide) (fun c3 => ?_) (fun c3 => ?_)
              · skip
                have c3n : 8 ≤ i := (nI_leI (a := 8) (b := i) (by omega) (by omega)).mp c3
                refine ev_iload dX7_wordFrom_88 rfl ?_
                refine ev_if_eq (tgt := 95) dX7_wordFrom_90 (by decide) (fun c => absurd c (by decide)) (fun _ => ?_)
                refine ev_iload_n dX7_wordFrom_93 rfl rfl ?_
                refine ev_reti dX7_wordFrom_94 rfl (Nat.zero_le _) (Nat.zero_le _) ?_
                have e8 : i = 8 := by omega
                subst e8
                exact ⟨by rw [he, lx_wfE (by omega) (by unfold lx_m; rw [decide_eq_true (by omega), hm]; rfl)], rfl⟩
              · skip
                have c3n : ¬ 8 ≤ i := fun zz => c3 ((nI_leI (a := 8) (b := i) (by omega) (by omega)).mpr zz)
                refine ev_iload dX7_wordFrom_33 rfl ?_
                refine ev_if_eq (tgt := 88) dX7_wordFrom_35 (by decide) (fun c => absurd c (by decide)) (fun _ => ?_)
                refine ev_aload_n dX7_wordFrom_38 rfl rfl ?_
                refine ev_getR (b := 84) dX7_wordFrom_39 fl_X7_64 (ly_k hI.ly 65 rfl) (ly_r hI.ly 47 rfl) ?_
                refine ev_bipush (v := 8) dX7_wordFrom_42 (by decide) ?_
                refine ev_iload_n dX7_wordFrom_44 rfl rfl ?_
                refine ev_imul (v := nI (8 * w)) dX7_wordFrom_45 (pk_mul 8 w) ?_
                refine ev_iload dX7_wordFrom_46 rfl ?_
                refine ev_iadd (v := nI (8 * w + i)) dX7_wordFrom_48 (nI_add (8 * w) i) ?_
                refine ev_iald (v := lx_W (8 * w + i)) dX7_wordFrom_49 (ly_k hI.ly 84 rfl) (am_ixn (by omega) (by decide)) ((hI.rd 84 (8 * w + i) rfl).trans (hW _ (by omega))) ?_
                refine ev_iload_n dX7_wordFrom_50 rfl rfl ?_
                refine ev_iload dX7_wordFrom_51 rfl ?_
                refine ev_iadd (v := nI (p + i)) dX7_wordFrom_53 (nI_add p i) ?_
                refine ev_iload_n dX7_wordFrom_54 rfl rfl ?_
                refine ev_icmp_ge (tgt := 70) dX7_wordFrom_55 (by decide) (fun c4 => ?_) (fun c4 => ?_)
                · skip
                  have c4n : q ≤ (p + i) := (nI_leI (a := q) (b := (p + i)) (by omega) (by omega)).mp c4
                  refine ev_bipush (v := 32) dX7_wordFrom_70 (by decide) ?_
                  refine ev_icmp_ne (tgt := 79) dX7_wordFrom_72 (by decide) (fun c5 => ?_) (fun c5 => ?_)
                  · skip
                    have hmn : lx_ma (A 74) p q w (i + 1) = false := lx_maN (by rw [if_neg (by omega)]; exact c5)
                    refine ev_iconst (v := 0) dX7_wordFrom_79 (by decide) ?_
                    refine ev_istore (lv' := [(0, .ref 65), (1, .int (nI p)), (2, .int (nI q)), (3, .int (nI w)), (4, .int 0), (5, .int (nI i))]) dX7_wordFrom_80 (by decide) rfl ?_
                    refine ev_iinc (lv' := [(0, .ref 65), (1, .int (nI p)), (2, .int (nI q)), (3, .int (nI w)), (4, .int 0), (5, .int (nI (i + 1)))]) (v := nI (i + 1)) dX7_wordFrom_82 rfl (nI_1 _) (by decide) rfl ?_
                    refine ev_goto (tgt := 26) dX7_wordFrom_85 (by decide) ?_
                    refine ev_iload dX7_wordFrom_26 rfl ?_
                    refine ev_bipush (v := 8) dX7_wordFrom_28 (by decide) ?_
                    refine ev_icmp_ge (tgt := 88) dX7_wordFrom_30 (by decide) (fun c6 => ?_) (fun c6 => ?_)
                    · skip
                      have c6n : 8 ≤ (i + 1) := (nI_leI (a := 8) (b := (i + 1)) (by omega) (by omega)).mp c6
                      refine ev_iload dX7_wordFrom_88 rfl ?_
                      refine ev_if_eq (tgt := 95) dX7_wordFrom_90 (by decide) (fun _ => ?_) (fun c => absurd (by decide) c)
                      refine ev_iinc (lv' := [(0, .ref 65), (1, .int (nI p)), (2, .int (nI q)), (3, .int (nI (w + 1))), (4, .int 0), (5, .int (nI (i + 1)))]) (v := nI (w + 1)) dX7_wordFrom_95 rfl (nI_1 _) (by decide) rfl ?_
                      refine ev_goto (tgt := 2) dX7_wordFrom_98 (by decide) ?_
                      refine ev_keep (lv' := [(0, .ref 65), (1, .int (nI p)), (2, .int (nI q)), (3, .int (nI (w + 1)))]) [0, 1, 2, 3] rfl ?_
                      exact ih (w + 1) (by omega) (by rw [← lx_wfS (by omega) (by unfold lx_m; rw [lx_maF hmn (by omega), Bool.and_false])]; exact he) (by omega)
                    · skip
                      have c6n : ¬ 8 ≤ (i + 1) := fun zz => c6 ((nI_leI (a := 8) (b := (i + 1)) (by omega) (by omega)).mpr zz)
                      refine ev_iload dX7_wordFrom_33 rfl ?_
                      refine ev_if_eq (tgt := 88) dX7_wordFrom_35 (by decide) (fun _ => ?_) (fun c => absurd (by decide) c)
                      refine ev_iload dX7_wordFrom_88 rfl ?_
                      refine ev_if_eq (tgt := 95) dX7_wordFrom_90 (by decide) (fun _ => ?_) (fun c => absurd (by decide) c)
                      refine ev_iinc (lv' := [(0, .ref 65), (1, .int (nI p)), (2, .int (nI q)), (3, .int (nI (w + 1))), (4, .int 0), (5, .int (nI (i + 1)))]) (v := nI (w + 1)) dX7_wordFrom_95 rfl (nI_1 _) (by decide) rfl ?_
                      refine ev_goto (tgt := 2) dX7_wordFrom_98 (by decide) ?_
                      refine ev_keep (lv' := [(0, .ref 65), (1, .int (nI p)), (2, .int (nI q)), (3, .int (nI (w + 1)))]) [0, 1, 2, 3] rfl ?_
                      exact ih (w + 1) (by omega) (by rw [← lx_wfS (by omega) (by unfold lx_m; rw [lx_maF hmn (by omega), Bool.and_false])]; exact he) (by omega)
                  · skip
                    have hms : lx_ma (A 74) p q w (i + 1) = true := lx_maS hm (by rw [if_neg (by omega)]; exact c5)
                    refine ev_iconst (v := 1) dX7_wordFrom_75 (by decide) ?_
                    refine ev_goto (tgt := 80) dX7_wordFrom_76 (by decide) ?_
                    refine ev_istore (lv' := [(0, .ref 65), (1, .int (nI p)), (2, .int (nI q)), (3, .int (nI w)), (4, .int 1), (5, .int (nI i))]) dX7_wordFrom_80 (by decide) rfl ?_
                    refine ev_iinc (lv' := [(0, .ref 65), (1, .int (nI p)), (2, .int (nI q)), (3, .int (nI w)), (4, .int 1), (5, .int (nI (i + 1)))]) (v := nI (i + 1)) dX7_wordFrom_82 rfl (nI_1 _) (by decide) rfl ?_
                    refine ev_goto (tgt := 26) dX7_wordFrom_85 (by decide) ?_
                    exact ih_lq (i + 1) (by omega) hms (by omega)
                · skip
                  have c4n : ¬ q ≤ (p + i) := fun zz => c4 ((nI_leI (a := q) (b := (p + i)) (by omega) (by omega)).mpr zz)
                  refine ev_aload_n dX7_wordFrom_58 rfl rfl ?_
                  refine ev_getR (b := 74) dX7_wordFrom_59 fl_X7_34 (ly_k hI.ly 65 rfl) (ly_r hI.ly 37 rfl) ?_
                  refine ev_iload_n dX7_wordFrom_62 rfl rfl ?_
                  refine ev_iload dX7_wordFrom_63 rfl ?_
                  refine ev_iadd (v := nI (p + i)) dX7_wordFrom_65 (nI_add p i) ?_
                  refine ev_iald (v := A 74 (p + i)) dX7_wordFrom_66 (ly_k hI.ly 74 rfl) (am_ixn (by omega) (by decide)) (hI.rd 74 (p + i) rfl) ?_
                  refine ev_goto (tgt := 72) dX7_wordFrom_67 (by decide) ?_
                  refine ev_icmp_ne (tgt := 79) dX7_wordFrom_72 (by decide) (fun c7 => ?_) (fun c7 => ?_)
                  · skip
                    have hmn : lx_ma (A 74) p q w (i + 1) = false := lx_maN (by rw [if_pos (by omega)]; exact c7)
                    refine ev_iconst (v := 0) dX7_wordFrom_79 (by decide) ?_
                    refine ev_istore (lv' := [(0, .ref 65), (1, .int (nI p)), (2, .int (nI q)), (3, .int (nI w)), (4, .int 0), (5, .int (nI i))]) dX7_wordFrom_80 (by decide) rfl ?_
                    refine ev_iinc (lv' := [(0, .ref 65), (1, .int (nI p)), (2, .int (nI q)), (3, .int (nI w)), (4, .int 0), (5, .int (nI (i + 1)))]) (v := nI (i + 1)) dX7_wordFrom_82 rfl (nI_1 _) (by decide) rfl ?_
                    refine ev_goto (tgt := 26) dX7_wordFrom_85 (by decide) ?_
                    refine ev_iload dX7_wordFrom_26 rfl ?_
                    refine ev_bipush (v := 8) dX7_wordFrom_28 (by decide) ?_
                    refine ev_icmp_ge (tgt := 88) dX7_wordFrom_30 (by decide) (fun c8 => ?_) (fun c8 => ?_)
                    · skip
                      have c8n : 8 ≤ (i + 1) := (nI_leI (a := 8) (b := (i + 1)) (by omega) (by omega)).mp c8
                      refine ev_iload dX7_wordFrom_88 rfl ?_
                      refine ev_if_eq (tgt := 95) dX7_wordFrom_90 (by decide) (fun _ => ?_) (fun c => absurd (by decide) c)
                      refine ev_iinc (lv' := [(0, .ref 65), (1, .int (nI p)), (2, .int (nI q)), (3, .int (nI (w + 1))), (4, .int 0), (5, .int (nI (i + 1)))]) (v := nI (w + 1)) dX7_wordFrom_95 rfl (nI_1 _) (by decide) rfl ?_
                      refine ev_goto (tgt := 2) dX7_wordFrom_98 (by decide) ?_
                      refine ev_keep (lv' := [(0, .ref 65), (1, .int (nI p)), (2, .int (nI q)), (3, .int (nI (w + 1)))]) [0, 1, 2, 3] rfl ?_
                      exact ih (w + 1) (by omega) (by rw [← lx_wfS (by omega) (by unfold lx_m; rw [lx_maF hmn (by omega), Bool.and_false])]; exact he) (by omega)
                    · skip
                      have c8n : ¬ 8 ≤ (i + 1) := fun zz => c8 ((nI_leI (a := 8) (b := (i + 1)) (by omega) (by omega)).mpr zz)
                      refine ev_iload dX7_wordFrom_33 rfl ?_
                      refine ev_if_eq (tgt := 88) dX7_wordFrom_35 (by decide) (fun _ => ?_) (fun c => absurd (by decide) c)
                      refine ev_iload dX7_wordFrom_88 rfl ?_
                      refine ev_if_eq (tgt := 95) dX7_wordFrom_90 (by decide) (fun _ => ?_) (fun c => absurd (by decide) c)
                      refine ev_iinc (lv' := [(0, .ref 65), (1, .int (nI p)), (2, .int (nI q)), (3, .int (nI (w + 1))), (4, .int 0), (5, .int (nI (i + 1)))]) (v := nI (w + 1)) dX7_wordFrom_95 rfl (nI_1 _) (by decide) rfl ?_
                      refine ev_goto (tgt := 2) dX7_wordFrom_98 (by decide) ?_
                      refine ev_keep (lv' := [(0, .ref 65), (1, .int (nI p)), (2, .int (nI q)), (3, .int (nI (w + 1)))]) [0, 1, 2, 3] rfl ?_
                      exact ih (w + 1) (by omega) (by rw [← lx_wfS (by omega) (by unfold lx_m; rw [lx_maF hmn (by omega), Bool.and_false])]; exact he) (by omega)
                  · skip
                    have hms : lx_ma (A 74) p q w (i + 1) = true := lx_maS hm (by rw [if_pos (by omega)]; exact c7)
                    refine ev_iconst (v := 1) dX7_wordFrom_75 (by decide) ?_
                    refine ev_goto (tgt := 80) dX7_wordFrom_76 (by decide) ?_
                    refine ev_istore (lv' := [(0, .ref 65), (1, .int (nI p)), (2, .int (nI q)), (3, .int (nI w)), (4, .int 1), (5, .int (nI i))]) dX7_wordFrom_80 (by decide) rfl ?_
                    refine ev_iinc (lv' := [(0, .ref 65), (1, .int (nI p)), (2, .int (nI q)), (3, .int (nI w)), (4, .int 1), (5, .int (nI (i + 1)))]) (v := nI (i + 1)) dX7_wordFrom_82 rfl (nI_1 _) (by decide) rfl ?_
                    refine ev_goto (tgt := 26) dX7_wordFrom_85 (by decide) ?_
                    exact ih_lq (i + 1) (by omega) hms (by omega)
          exact lq _ 0 (by omega) rfl (Nat.lt_succ_self _)
  refine ev_iconst (v := 0) dX7_wordFrom_0 (by decide) ?_
  refine ev_istore_n (lv' := [(0, .ref 65), (1, .int (nI p)), (2, .int (nI q)), (3, .int 0)]) dX7_wordFrom_1 rfl (by decide) rfl ?_
  exact lp _ 0 (by omega) rfl (Nat.lt_succ_self _)

