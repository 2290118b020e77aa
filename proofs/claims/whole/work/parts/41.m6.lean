/-! the reference: jokers tried, who joins, leaves -/
theorem s_bjS {A : am_S} {T n : Nat} (h : (s_bj A T n).2 < s_jk A T (nI n)) : s_bj A T (n + 1) = (some n, s_jk A T (nI n)) := if_pos h
theorem s_bjK {A : am_S} {T n : Nat} (h : ¬ (s_bj A T n).2 < s_jk A T (nI n)) : s_bj A T (n + 1) = s_bj A T n := if_neg h
theorem s_joE {A : am_S} {T n : Nat} (h : s_se A T n = true) : s_jo A T (n + 1) = s_jo A T n := if_pos h
theorem s_joS {A : am_S} {T n : Nat} (h0 : s_se A T n = false) (h : (s_jo A T n).2 < s_wi A T n (nI T)) : s_jo A T (n + 1) = (some n, s_wi A T n (nI T)) := by
  show (if s_se A T n then _ else if _ then _ else _) = _
  rw [h0, if_pos h]
  rfl
theorem s_joK {A : am_S} {T n : Nat} (h0 : s_se A T n = false) (h : ¬ (s_jo A T n).2 < s_wi A T n (nI T)) : s_jo A T (n + 1) = s_jo A T n := by
  show (if s_se A T n then _ else if _ then _ else _) = _
  rw [h0, if_neg h]
  rfl
theorem wf_jm : wf_j (-1) := Or.inl rfl
theorem wf_jn {q : Nat} (h : q < 8) : wf_j (nI q) := Or.inr ⟨q, h, rfl⟩
theorem am_rest {A : am_S} {a k : Nat} {x : Int32} : am_up (am_up A a k x) a k (A a k) = A := by rw [am_uw2]; exact am_uu rfl
set_option maxHeartbeats 400000 in
set_option maxRecDepth 100000 in
theorem c_X7_best (G : am_G) (D : Nat) (A : am_S) (σ : am_M) (hA : wf_A A) (hI : iv_M A σ) (t w : Int32) : am_Mt G (D + 9) mX7_best [.ref 65, .int t, .int w] σ 0 0 (am_qM A (.int (sp_best A t w)) σ) := by
  have b7 := wf_np7 hA
  have b8 := wf_nq8 hA
  have b6 := wf_nt6 hA
  have b61 := wf_nt1 hA
  have b160 := wf_tp160 hA
  have brl := wf_rlt hA
  refine am_of moX7_best (Nat.le_of_ble_eq_true rfl) ?_
  show am_Ev G mX7_best (am_R (D + 9) 0 0) 0 0 (am_qM A (.int (sp_best A t w)) σ) 0 [(0, .ref 65), (1, .int t), (2, .int w)] [] σ 0 0
  refine ev_iload_n dX7_best_0 rfl rfl ?_
  refine ev_callS (as := [.int t]) (st := []) dX7_best_1 mfX7_isTable lk_X7_183 (c_X7_isTable G (D + 7) σ t) rfl rfl (Nat.le_of_ble_eq_true rfl) (am_hR (by omega) (by decide)) ⟨Nat.le_refl _, Nat.le_refl _⟩ ?_
  rintro _ _ (⟨⟨j1, h1, rfl⟩, rfl, rfl⟩ | ⟨h1, rfl, rfl⟩)
  · skip
    refine ev_if_ne (tgt := 10) dX7_best_4 (by decide) (fun _ => ?_) (fun c => absurd c (by decide))
    refine ev_iload_n dX7_best_10 rfl rfl ?_
    refine ev_iconst (v := 0) dX7_best_11 (by decide) ?_
    refine ev_iconst (v := 1) dX7_best_12 (by decide) ?_
    refine ev_callS (as := [.int w, .int 0, .int 1]) (st := []) dX7_best_13 mfX7_in lk_X7_90 (c_X7_in G (D + 8) σ w 0 1) rfl rfl (Nat.le_of_ble_eq_true rfl) (am_hR (by omega) (by decide)) ⟨Nat.le_refl _, Nat.le_refl _⟩ ?_
    rintro _ _ (⟨h2, rfl, rfl⟩ | ⟨h2, rfl, rfl⟩)
    · skip
      rcases am_v1 h2 with rfl | rfl
      · skip
        refine ev_if_ne (tgt := 22) dX7_best_16 (by decide) (fun _ => ?_) (fun c => absurd c (by decide))
        refine ev_aload_n dX7_best_22 rfl rfl ?_
        refine ev_getR (b := 73) dX7_best_23 fl_X7_31 (ly_k hI.ly 65 rfl) (ly_r hI.ly 36 rfl) ?_
        refine ev_iload_n dX7_best_26 rfl rfl ?_
        refine ev_iald (v := A 73 j1) dX7_best_27 (ly_k hI.ly 73 rfl) (am_ixn (by omega) (by decide)) (hI.rd 73 j1 rfl) ?_
        refine ev_istore_n (lv' := [(0, .ref 65), (1, .int (nI j1)), (2, .int 0), (3, .int (A 73 j1))]) dX7_best_28 rfl (by decide) rfl ?_
        refine ev_aload_n dX7_best_29 rfl rfl ?_
        refine ev_getR (b := 73) dX7_best_30 fl_X7_31 (ly_k hI.ly 65 rfl) (ly_r hI.ly 36 rfl) ?_
        refine ev_iload_n dX7_best_33 rfl rfl ?_
        refine ev_iconst (v := (-1)) dX7_best_34 (by decide) ?_
        refine ev_iast dX7_best_35 (ly_k hI.ly 73 rfl) (am_ixn (by omega) (by decide)) ?_
        refine ev_iconst (v := (-1)) dX7_best_36 (by decide) ?_
        refine ev_istore (lv' := [(0, .ref 65), (1, .int (nI j1)), (2, .int 0), (3, .int (A 73 j1)), (4, .int (-1))]) dX7_best_37 (by decide) rfl ?_
        refine ev_aload_n dX7_best_39 rfl rfl ?_
        refine ev_iload_n dX7_best_40 rfl rfl ?_
        refine ev_callV (as := [.int (nI j1)]) (st := []) dX7_best_41 mfX7_scoreNow lk_X7_217 (ly_k (iv_M.up hI).ly 65 rfl) (by decide) rfl (c_X7_scoreNow G D (am_up A 73 j1 (-1)) (am_sI σ 73 j1 (-1)) (wf_73 hA wf_jm) (iv_M.up hI) j1 (by omega)) rfl rfl (Nat.le_of_ble_eq_true rfl) (am_hR (by omega) (by decide)) ⟨Nat.le_refl _, Nat.le_refl _⟩ ?_
        rintro _ σ3 ⟨rfl, hI3, hF3⟩
        rw [s_now73]
        change am_Ev G mX7_best (am_R (D + 9) 0 0) 0 0 (am_qM A (.int (sp_best A (nI j1) 0)) σ) 44 [(0, .ref 65), (1, .int (nI j1)), (2, .int 0), (3, .int (A 73 j1)), (4, .int (-1))] [.int (s_jk A j1 (-1))] σ3 0 0
        refine ev_istore (lv' := [(0, .ref 65), (1, .int (nI j1)), (2, .int 0), (3, .int (A 73 j1)), (4, .int (-1)), (5, .int (s_jk A j1 (-1)))]) dX7_best_44 (by decide) rfl ?_
        refine ev_iconst (v := 0) dX7_best_46 (by decide) ?_
        refine ev_istore (lv' := [(0, .ref 65), (1, .int (nI j1)), (2, .int 0), (3, .int (A 73 j1)), (4, .int (-1)), (5, .int (s_jk A j1 (-1))), (6, .int 0)]) dX7_best_47 (by decide) rfl ?_
        have lp : ∀ (f : Nat) (q : Nat) (jj : Int32) (best : Int32) (most : Int32) (σ1 : am_M), (q ≤ s_nq A) → (wf_j jj) → (best = s_bi (s_bj A j1 q).1) → (most = (s_bj A j1 q).2) → (iv_M (am_up A 73 j1 jj) σ1) → (fr_M σ σ1) → s_nq A - q < f → am_Ev G mX7_best (am_R (D + 9) 0 0) 0 0 (am_qM A (.int (sp_best A (nI j1) 0)) σ) 49 [(0, .ref 65), (1, .int (nI j1)), (2, .int 0), (3, .int (A 73 j1)), (4, .int best), (5, .int most), (6, .int (nI q))] [] σ1 0 0 := by
          intro f
          induction f with
          | zero => intro q jj best most σ1 hq hj hb hm hI hF hf; exact absurd hf (Nat.not_lt_zero _)
          | succ f ih =>
            intro q jj best most σ1 hq hj hb hm hI hF hf
            refine ev_iload dX7_best_49 rfl ?_
            refine ev_aload_n dX7_best_51 rfl rfl ?_
            refine ev_getI (v := nI (s_nq A)) dX7_best_52 fl_X7_94 (ly_k hI.ly 65 rfl) ((hI.rd 65 6 rfl).trans ((am_ua (by decide)).trans (wf_nq hA))) ?_
            refine ev_icmp_ge (tgt := 111) dX7_best_55 (by decide) (fun c4 => ?_) (fun c4 => ?_)
            · skip
              have c4n : (s_nq A) ≤ q := (nI_leI (a := (s_nq A)) (b := q) (by omega) (by omega)).mp c4
              refine ev_aload_n dX7_best_111 rfl rfl ?_
              refine ev_getR (b := 73) dX7_best_112 fl_X7_31 (ly_k hI.ly 65 rfl) (ly_r hI.ly 36 rfl) ?_
              refine ev_iload_n dX7_best_115 rfl rfl ?_
              refine ev_iload_n dX7_best_116 rfl rfl ?_
              refine ev_iast dX7_best_117 (ly_k hI.ly 73 rfl) (am_ixn (by omega) (by decide)) ?_
              refine ev_iload_n dX7_best_118 rfl rfl ?_
              refine ev_if_ne (tgt := 127) dX7_best_119 (by decide) (fun c => absurd (by decide) c) (fun _ => ?_)
              refine ev_iload dX7_best_122 rfl ?_
              refine ev_goto (tgt := 129) dX7_best_124 (by decide) ?_
              refine ev_reti dX7_best_129 rfl (Nat.zero_le _) (Nat.zero_le _) ?_
              have e : q = s_nq A := by omega
              subst e
              refine ⟨?_, iv_M.cg (iv_M.up hI) (fun a i _ => by rw [am_rest]), (fr_M.wr (by decide) hF)⟩
              rw [hb]
              simp [sp_best, am_inN h1 (by omega), sN_n (show j1 < 2 ^ 31 by omega)]
            · skip
              have c4n : ¬ (s_nq A) ≤ q := fun zz => c4 ((nI_leI (a := (s_nq A)) (b := q) (by omega) (by omega)).mpr zz)
              refine ev_aload_n dX7_best_58 rfl rfl ?_
              refine ev_getR (b := 73) dX7_best_59 fl_X7_31 (ly_k hI.ly 65 rfl) (ly_r hI.ly 36 rfl) ?_
              refine ev_iload_n dX7_best_62 rfl rfl ?_
              refine ev_iload dX7_best_63 rfl ?_
              refine ev_iast dX7_best_65 (ly_k hI.ly 73 rfl) (am_ixn (by omega) (by decide)) ?_
              have hIq : iv_M (am_up A 73 j1 (nI q)) (am_sI σ1 73 j1 (nI q)) := iv_M.cg (iv_M.up hI) (fun a i _ => by rw [am_uw2])
              refine ev_aload_n dX7_best_66 rfl rfl ?_
              refine ev_iload_n dX7_best_67 rfl rfl ?_
              refine ev_callV (as := [.int (nI j1)]) (st := []) dX7_best_68 mfX7_scoreNow lk_X7_217 (ly_k hIq.ly 65 rfl) (by decide) rfl (c_X7_scoreNow G D (am_up A 73 j1 (nI q)) (am_sI σ1 73 j1 (nI q)) (wf_73 hA (wf_jn (by omega))) hIq j1 (by omega)) rfl rfl (Nat.le_of_ble_eq_true rfl) (am_hR (by omega) (by decide)) ⟨Nat.le_refl _, Nat.le_refl _⟩ ?_
              rintro _ σ5 ⟨rfl, hI5, hF5⟩
              rw [s_now73]
              change am_Ev G mX7_best (am_R (D + 9) 0 0) 0 0 (am_qM A (.int (sp_best A (nI j1) 0)) σ) 71 [(0, .ref 65), (1, .int (nI j1)), (2, .int 0), (3, .int (A 73 j1)), (4, .int best), (5, .int most), (6, .int (nI q))] [.int (s_jk A j1 (nI q))] σ5 0 0
              refine ev_istore (lv' := [(0, .ref 65), (1, .int (nI j1)), (2, .int 0), (3, .int (A 73 j1)), (4, .int best), (5, .int most), (6, .int (nI q)), (7, .int (s_jk A j1 (nI q)))]) dX7_best_71 (by decide) rfl ?_
              refine ev_iload dX7_best_73 rfl ?_
              refine ev_iload dX7_best_75 rfl ?_
              refine ev_icmp_le (tgt := 85) dX7_best_77 (by decide) (fun c6 => ?_) (fun c6 => ?_)
              · skip
                have hlt : ¬ (s_bj A j1 q).2 < s_jk A j1 (nI q) := by rw [← hm]; exact Int32.not_lt.mpr c6
                refine ev_iload dX7_best_85 rfl ?_
                refine ev_istore (lv' := [(0, .ref 65), (1, .int (nI j1)), (2, .int 0), (3, .int (A 73 j1)), (4, .int best), (5, .int most), (6, .int (nI q)), (7, .int (s_jk A j1 (nI q)))]) dX7_best_87 (by decide) rfl ?_
                refine ev_iload dX7_best_89 rfl ?_
                refine ev_iload dX7_best_91 rfl ?_
                refine ev_icmp_le (tgt := 101) dX7_best_93 (by decide) (fun _ => ?_) (fun c => absurd (Int32.not_lt.mp (by first | exact hlt | (rw [hm]; exact hlt))) c)
                refine ev_iload dX7_best_101 rfl ?_
                refine ev_istore (lv' := [(0, .ref 65), (1, .int (nI j1)), (2, .int 0), (3, .int (A 73 j1)), (4, .int best), (5, .int most), (6, .int (nI q)), (7, .int (s_jk A j1 (nI q)))]) dX7_best_103 (by decide) rfl ?_
                refine ev_iinc (lv' := [(0, .ref 65), (1, .int (nI j1)), (2, .int 0), (3, .int (A 73 j1)), (4, .int best), (5, .int most), (6, .int (nI (q + 1))), (7, .int (s_jk A j1 (nI q)))]) (v := nI (q + 1)) dX7_best_105 rfl (nI_1 _) (by decide) rfl ?_
                refine ev_goto (tgt := 49) dX7_best_108 (by decide) ?_
                refine ev_keep (lv' := [(0, .ref 65), (1, .int (nI j1)), (2, .int 0), (3, .int (A 73 j1)), (4, .int best), (5, .int most), (6, .int (nI (q + 1)))]) [0, 1, 2, 3, 4, 5, 6] rfl ?_
                exact ih (q + 1) (nI q) best most σ5 (by omega) (wf_jn (by omega)) (by rw [s_bjK hlt]; exact hb) (by rw [s_bjK hlt]; exact hm) hI5 (fr_M.tr (fr_M.wr (by decide) hF) hF5) (by omega)
              · skip
                have hlt : (s_bj A j1 q).2 < s_jk A j1 (nI q) := by rw [← hm]; exact Int32.not_le.mp c6
                refine ev_iload dX7_best_80 rfl ?_
                refine ev_goto (tgt := 87) dX7_best_82 (by decide) ?_
                refine ev_istore (lv' := [(0, .ref 65), (1, .int (nI j1)), (2, .int 0), (3, .int (A 73 j1)), (4, .int (nI q)), (5, .int most), (6, .int (nI q)), (7, .int (s_jk A j1 (nI q)))]) dX7_best_87 (by decide) rfl ?_
                refine ev_iload dX7_best_89 rfl ?_
                refine ev_iload dX7_best_91 rfl ?_
                refine ev_icmp_le (tgt := 101) dX7_best_93 (by decide) (fun c => absurd c (Int32.not_le.mpr (by first | exact hlt | (rw [hm]; exact hlt)))) (fun _ => ?_)
                refine ev_iload dX7_best_96 rfl ?_
                refine ev_goto (tgt := 103) dX7_best_98 (by decide) ?_
                refine ev_istore (lv' := [(0, .ref 65), (1, .int (nI j1)), (2, .int 0), (3, .int (A 73 j1)), (4, .int (nI q)), (5, .int (s_jk A j1 (nI q))), (6, .int (nI q)), (7, .int (s_jk A j1 (nI q)))]) dX7_best_103 (by decide) rfl ?_
                refine ev_iinc (lv' := [(0, .ref 65), (1, .int (nI j1)), (2, .int 0), (3, .int (A 73 j1)), (4, .int (nI q)), (5, .int (s_jk A j1 (nI q))), (6, .int (nI (q + 1))), (7, .int (s_jk A j1 (nI q)))]) (v := nI (q + 1)) dX7_best_105 rfl (nI_1 _) (by decide) rfl ?_
                refine ev_goto (tgt := 49) dX7_best_108 (by decide) ?_
                refine ev_keep (lv' := [(0, .ref 65), (1, .int (nI j1)), (2, .int 0), (3, .int (A 73 j1)), (4, .int (nI q)), (5, .int (s_jk A j1 (nI q))), (6, .int (nI (q + 1)))]) [0, 1, 2, 3, 4, 5, 6] rfl ?_
                exact ih (q + 1) (nI q) (nI q) (s_jk A j1 (nI q)) σ5 (by omega) (wf_jn (by omega)) (by rw [s_bjS hlt]; rfl) (by rw [s_bjS hlt]) hI5 (fr_M.tr (fr_M.wr (by decide) hF) hF5) (by omega)
        exact lp _ 0 (-1) (-1) (s_jk A j1 (-1)) σ3 (Nat.zero_le _) wf_jm rfl rfl hI3 (fr_M.tr (fr_M.wr (by decide) fr_M.rf) hF3) (Nat.lt_succ_self _)
      · skip
        refine ev_if_ne (tgt := 22) dX7_best_16 (by decide) (fun _ => ?_) (fun c => absurd c (by decide))
        refine ev_aload_n dX7_best_22 rfl rfl ?_
        refine ev_getR (b := 73) dX7_best_23 fl_X7_31 (ly_k hI.ly 65 rfl) (ly_r hI.ly 36 rfl) ?_
        refine ev_iload_n dX7_best_26 rfl rfl ?_
        refine ev_iald (v := A 73 j1) dX7_best_27 (ly_k hI.ly 73 rfl) (am_ixn (by omega) (by decide)) (hI.rd 73 j1 rfl) ?_
        refine ev_istore_n (lv' := [(0, .ref 65), (1, .int (nI j1)), (2, .int 1), (3, .int (A 73 j1))]) dX7_best_28 rfl (by decide) rfl ?_
        refine ev_aload_n dX7_best_29 rfl rfl ?_
        refine ev_getR (b := 73) dX7_best_30 fl_X7_31 (ly_k hI.ly 65 rfl) (ly_r hI.ly 36 rfl) ?_
        refine ev_iload_n dX7_best_33 rfl rfl ?_
        refine ev_iconst (v := (-1)) dX7_best_34 (by decide) ?_
        refine ev_iast dX7_best_35 (ly_k hI.ly 73 rfl) (am_ixn (by omega) (by decide)) ?_
        refine ev_iconst (v := (-1)) dX7_best_36 (by decide) ?_
        refine ev_istore (lv' := [(0, .ref 65), (1, .int (nI j1)), (2, .int 1), (3, .int (A 73 j1)), (4, .int (-1))]) dX7_best_37 (by decide) rfl ?_
        refine ev_aload_n dX7_best_39 rfl rfl ?_
        refine ev_iload_n dX7_best_40 rfl rfl ?_
        refine ev_callV (as := [.int (nI j1)]) (st := []) dX7_best_41 mfX7_scoreNow lk_X7_217 (ly_k (iv_M.up hI).ly 65 rfl) (by decide) rfl (c_X7_scoreNow G D (am_up A 73 j1 (-1)) (am_sI σ 73 j1 (-1)) (wf_73 hA wf_jm) (iv_M.up hI) j1 (by omega)) rfl rfl (Nat.le_of_ble_eq_true rfl) (am_hR (by omega) (by decide)) ⟨Nat.le_refl _, Nat.le_refl _⟩ ?_
        rintro _ σ7 ⟨rfl, hI7, hF7⟩
        rw [s_now73]
        change am_Ev G mX7_best (am_R (D + 9) 0 0) 0 0 (am_qM A (.int (sp_best A (nI j1) 1)) σ) 44 [(0, .ref 65), (1, .int (nI j1)), (2, .int 1), (3, .int (A 73 j1)), (4, .int (-1))] [.int (s_jk A j1 (-1))] σ7 0 0
        refine ev_istore (lv' := [(0, .ref 65), (1, .int (nI j1)), (2, .int 1), (3, .int (A 73 j1)), (4, .int (-1)), (5, .int (s_jk A j1 (-1)))]) dX7_best_44 (by decide) rfl ?_
        refine ev_iconst (v := 0) dX7_best_46 (by decide) ?_
        refine ev_istore (lv' := [(0, .ref 65), (1, .int (nI j1)), (2, .int 1), (3, .int (A 73 j1)), (4, .int (-1)), (5, .int (s_jk A j1 (-1))), (6, .int 0)]) dX7_best_47 (by decide) rfl ?_
        have lp : ∀ (f : Nat) (q : Nat) (jj : Int32) (best : Int32) (most : Int32) (σ1 : am_M), (q ≤ s_nq A) → (wf_j jj) → (best = s_bi (s_bj A j1 q).1) → (most = (s_bj A j1 q).2) → (iv_M (am_up A 73 j1 jj) σ1) → (fr_M σ σ1) → s_nq A - q < f → am_Ev G mX7_best (am_R (D + 9) 0 0) 0 0 (am_qM A (.int (sp_best A (nI j1) 1)) σ) 49 [(0, .ref 65), (1, .int (nI j1)), (2, .int 1), (3, .int (A 73 j1)), (4, .int best), (5, .int most), (6, .int (nI q))] [] σ1 0 0 := by
          intro f
          induction f with
          | zero => intro q jj best most σ1 hq hj hb hm hI hF hf; exact absurd hf (Nat.not_lt_zero _)
          | succ f ih =>
            intro q jj best most σ1 hq hj hb hm hI hF hf
            refine ev_iload dX7_best_49 rfl ?_
            refine ev_aload_n dX7_best_51 rfl rfl ?_
            refine ev_getI (v := nI (s_nq A)) dX7_best_52 fl_X7_94 (ly_k hI.ly 65 rfl) ((hI.rd 65 6 rfl).trans ((am_ua (by decide)).trans (wf_nq hA))) ?_
            refine ev_icmp_ge (tgt := 111) dX7_best_55 (by decide) (fun c8 => ?_) (fun c8 => ?_)
            · skip
              have c8n : (s_nq A) ≤ q := (nI_leI (a := (s_nq A)) (b := q) (by omega) (by omega)).mp c8
              refine ev_aload_n dX7_best_111 rfl rfl ?_
              refine ev_getR (b := 73) dX7_best_112 fl_X7_31 (ly_k hI.ly 65 rfl) (ly_r hI.ly 36 rfl) ?_
              refine ev_iload_n dX7_best_115 rfl rfl ?_
              refine ev_iload_n dX7_best_116 rfl rfl ?_
              refine ev_iast dX7_best_117 (ly_k hI.ly 73 rfl) (am_ixn (by omega) (by decide)) ?_
              refine ev_iload_n dX7_best_118 rfl rfl ?_
              refine ev_if_ne (tgt := 127) dX7_best_119 (by decide) (fun _ => ?_) (fun c => absurd c (by decide))
              refine ev_iload dX7_best_127 rfl ?_
              refine ev_reti dX7_best_129 rfl (Nat.zero_le _) (Nat.zero_le _) ?_
              have e : q = s_nq A := by omega
              subst e
              refine ⟨?_, iv_M.cg (iv_M.up hI) (fun a i _ => by rw [am_rest]), (fr_M.wr (by decide) hF)⟩
              rw [hm]
              simp [sp_best, am_inN h1 (by omega), sN_n (show j1 < 2 ^ 31 by omega)]
            · skip
              have c8n : ¬ (s_nq A) ≤ q := fun zz => c8 ((nI_leI (a := (s_nq A)) (b := q) (by omega) (by omega)).mpr zz)
              refine ev_aload_n dX7_best_58 rfl rfl ?_
              refine ev_getR (b := 73) dX7_best_59 fl_X7_31 (ly_k hI.ly 65 rfl) (ly_r hI.ly 36 rfl) ?_
              refine ev_iload_n dX7_best_62 rfl rfl ?_
              refine ev_iload dX7_best_63 rfl ?_
              refine ev_iast dX7_best_65 (ly_k hI.ly 73 rfl) (am_ixn (by omega) (by decide)) ?_
              have hIq : iv_M (am_up A 73 j1 (nI q)) (am_sI σ1 73 j1 (nI q)) := iv_M.cg (iv_M.up hI) (fun a i _ => by rw [am_uw2])
              refine ev_aload_n dX7_best_66 rfl rfl ?_
              refine ev_iload_n dX7_best_67 rfl rfl ?_
              refine ev_callV (as := [.int (nI j1)]) (st := []) dX7_best_68 mfX7_scoreNow lk_X7_217 (ly_k hIq.ly 65 rfl) (by decide) rfl (c_X7_scoreNow G D (am_up A 73 j1 (nI q)) (am_sI σ1 73 j1 (nI q)) (wf_73 hA (wf_jn (by omega))) hIq j1 (by omega)) rfl rfl (Nat.le_of_ble_eq_true rfl) (am_hR (by omega) (by decide)) ⟨Nat.le_refl _, Nat.le_refl _⟩ ?_
              rintro _ σ9 ⟨rfl, hI9, hF9⟩
              rw [s_now73]
              change am_Ev G mX7_best (am_R (D + 9) 0 0) 0 0 (am_qM A (.int (sp_best A (nI j1) 1)) σ) 71 [(0, .ref 65), (1, .int (nI j1)), (2, .int 1), (3, .int (A 73 j1)), (4, .int best), (5, .int most), (6, .int (nI q))] [.int (s_jk A j1 (nI q))] σ9 0 0
              refine ev_istore (lv' := [(0, .ref 65), (1, .int (nI j1)), (2, .int 1), (3, .int (A 73 j1)), (4, .int best), (5, .int most), (6, .int (nI q)), (7, .int (s_jk A j1 (nI q)))]) dX7_best_71 (by decide) rfl ?_
              refine ev_iload dX7_best_73 rfl ?_
              refine ev_iload dX7_best_75 rfl ?_
              refine ev_icmp_le (tgt := 85) dX7_best_77 (by decide) (fun c10 => ?_) (fun c10 => ?_)
              · skip
                have hlt : ¬ (s_bj A j1 q).2 < s_jk A j1 (nI q) := by rw [← hm]; exact Int32.not_lt.mpr c10
                refine ev_iload dX7_best_85 rfl ?_
                refine ev_istore (lv' := [(0, .ref 65), (1, .int (nI j1)), (2, .int 1), (3, .int (A 73 j1)), (4, .int best), (5, .int most), (6, .int (nI q)), (7, .int (s_jk A j1 (nI q)))]) dX7_best_87 (by decide) rfl ?_
                refine ev_iload dX7_best_89 rfl ?_
                refine ev_iload dX7_best_91 rfl ?_
                refine ev_icmp_le (tgt := 101) dX7_best_93 (by decide) (fun _ => ?_) (fun c => absurd (Int32.not_lt.mp (by first | exact hlt | (rw [hm]; exact hlt))) c)
                refine ev_iload dX7_best_101 rfl ?_
                refine ev_istore (lv' := [(0, .ref 65), (1, .int (nI j1)), (2, .int 1), (3, .int (A 73 j1)), (4, .int best), (5, .int most), (6, .int (nI q)), (7, .int (s_jk A j1 (nI q)))]) dX7_best_103 (by decide) rfl ?_
                refine ev_iinc (lv' := [(0, .ref 65), (1, .int (nI j1)), (2, .int 1), (3, .int (A 73 j1)), (4, .int best), (5, .int most), (6, .int (nI (q + 1))), (7, .int (s_jk A j1 (nI q)))]) (v := nI (q + 1)) dX7_best_105 rfl (nI_1 _) (by decide) rfl ?_
                refine ev_goto (tgt := 49) dX7_best_108 (by decide) ?_
                refine ev_keep (lv' := [(0, .ref 65), (1, .int (nI j1)), (2, .int 1), (3, .int (A 73 j1)), (4, .int best), (5, .int most), (6, .int (nI (q + 1)))]) [0, 1, 2, 3, 4, 5, 6] rfl ?_
                exact ih (q + 1) (nI q) best most σ9 (by omega) (wf_jn (by omega)) (by rw [s_bjK hlt]; exact hb) (by rw [s_bjK hlt]; exact hm) hI9 (fr_M.tr (fr_M.wr (by decide) hF) hF9) (by omega)
              · skip
                have hlt : (s_bj A j1 q).2 < s_jk A j1 (nI q) := by rw [← hm]; exact Int32.not_le.mp c10
                refine ev_iload dX7_best_80 rfl ?_
                refine ev_goto (tgt := 87) dX7_best_82 (by decide) ?_
                refine ev_istore (lv' := [(0, .ref 65), (1, .int (nI j1)), (2, .int 1), (3, .int (A 73 j1)), (4, .int (nI q)), (5, .int most), (6, .int (nI q)), (7, .int (s_jk A j1 (nI q)))]) dX7_best_87 (by decide) rfl ?_
                refine ev_iload dX7_best_89 rfl ?_
                refine ev_iload dX7_best_91 rfl ?_
                refine ev_icmp_le (tgt := 101) dX7_best_93 (by decide) (fun c => absurd c (Int32.not_le.mpr (by first | exact hlt | (rw [hm]; exact hlt)))) (fun _ => ?_)
                refine ev_iload dX7_best_96 rfl ?_
                refine ev_goto (tgt := 103) dX7_best_98 (by decide) ?_
                refine ev_istore (lv' := [(0, .ref 65), (1, .int (nI j1)), (2, .int 1), (3, .int (A 73 j1)), (4, .int (nI q)), (5, .int (s_jk A j1 (nI q))), (6, .int (nI q)), (7, .int (s_jk A j1 (nI q)))]) dX7_best_103 (by decide) rfl ?_
                refine ev_iinc (lv' := [(0, .ref 65), (1, .int (nI j1)), (2, .int 1), (3, .int (A 73 j1)), (4, .int (nI q)), (5, .int (s_jk A j1 (nI q))), (6, .int (nI (q + 1))), (7, .int (s_jk A j1 (nI q)))]) (v := nI (q + 1)) dX7_best_105 rfl (nI_1 _) (by decide) rfl ?_
                refine ev_goto (tgt := 49) dX7_best_108 (by decide) ?_
                refine ev_keep (lv' := [(0, .ref 65), (1, .int (nI j1)), (2, .int 1), (3, .int (A 73 j1)), (4, .int (nI q)), (5, .int (s_jk A j1 (nI q))), (6, .int (nI (q + 1)))]) [0, 1, 2, 3, 4, 5, 6] rfl ?_
                exact ih (q + 1) (nI q) (nI q) (s_jk A j1 (nI q)) σ9 (by omega) (wf_jn (by omega)) (by rw [s_bjS hlt]; rfl) (by rw [s_bjS hlt]) hI9 (fr_M.tr (fr_M.wr (by decide) hF) hF9) (by omega)
        exact lp _ 0 (-1) (-1) (s_jk A j1 (-1)) σ7 (Nat.zero_le _) wf_jm rfl rfl hI7 (fr_M.tr (fr_M.wr (by decide) fr_M.rf) hF7) (Nat.lt_succ_self _)
    · skip
      have h2r := fun q => h2 ((am_rgl (n := 2) (by decide)).mpr q)
      have hw0 := am_w1 h2r
      refine ev_if_ne (tgt := 22) dX7_best_16 (by decide) (fun c => absurd (by decide) c) (fun _ => ?_)
      refine ev_bipush (v := (-7)) dX7_best_19 (by decide) ?_
      refine ev_reti dX7_best_21 rfl (Nat.zero_le _) (Nat.zero_le _) ?_
      refine ⟨?_, hI, fr_M.rf⟩
      simp [sp_best, am_inN h1 (by omega), sN_n (show j1 < 2 ^ 31 by omega), hw0]
  · skip
    refine ev_if_ne (tgt := 10) dX7_best_4 (by decide) (fun c => absurd (by decide) c) (fun _ => ?_)
    refine ev_bipush (v := (-5)) dX7_best_7 (by decide) ?_
    refine ev_reti dX7_best_9 rfl (Nat.zero_le _) (Nat.zero_le _) ?_
    refine ⟨?_, hI, fr_M.rf⟩
    simp [sp_best, am_inF (by omega) h1]

