/-! the reference: lots -/
theorem am_k88 {τ : am_M} {i k : Nat} {v x : Int32} (h : τ.2.1 88 k = x) : (am_sI τ 70 i v).2.1 88 k = x := Eq.trans (b := τ.2.1 88 k) (am_ua (f := τ.2.1) (a := 70) (k := i) (v := v) (x := 88) (y := k) (by decide)) h
set_option maxHeartbeats 400000 in
set_option maxRecDepth 100000 in
theorem c_X7_winnerBy (G : am_G) (D : Nat) (A : am_S) (σ : am_M) (hA : wf_A A) (hI : iv_M A σ) (seed : Int32) : am_Mt G (D + 10) mX7_winnerBy [.ref 65, .int seed] σ 0 0 (am_qW A (.int (nI (s_wb A seed))) σ) := by
  have b7 := wf_np7 hA
  have b8 := wf_nq8 hA
  have b6 := wf_nt6 hA
  have b61 := wf_nt1 hA
  have b160 := wf_tp160 hA
  have brl := wf_rlt hA
  refine am_of moX7_winnerBy (Nat.le_of_ble_eq_true rfl) ?_
  show am_Ev G mX7_winnerBy (am_R (D + 10) 0 0) 0 0 (am_qW A (.int (nI (s_wb A seed))) σ) 0 [(0, .ref 65), (1, .int seed)] [] σ 0 0
  refine ev_iload_n dX7_winnerBy_0 rfl rfl ?_
  refine ev_i2l (v := (seed : Int32).toInt64) dX7_winnerBy_1 rfl ?_
  refine ev_lconst (v := 1) dX7_winnerBy_2 (by decide) ?_
  refine ev_ladd (v := ((seed : Int32).toInt64) + 1) dX7_winnerBy_3 rfl ?_
  refine ev_lstore_n (lv' := [(0, .ref 65), (1, .int seed), (2, .long (((seed : Int32).toInt64) + 1))]) dX7_winnerBy_4 rfl (by decide) rfl ?_
  refine ev_iconst (v := 0) dX7_winnerBy_5 (by decide) ?_
  refine ev_istore (lv' := [(0, .ref 65), (1, .int seed), (2, .long (((seed : Int32).toInt64) + 1)), (4, .int 0)]) dX7_winnerBy_6 (by decide) rfl ?_
  have lp : ∀ (f : Nat) (n : Nat) (σ1 : am_M), (n ≤ 28) → (∀ k, k < n → σ1.2.1 88 k = A 70 k) → (iv_M A σ1) → (fr_W σ σ1) → 28 - n < f → am_Ev G mX7_winnerBy (am_R (D + 10) 0 0) 0 0 (am_qW A (.int (nI (s_wb A seed))) σ) 8 [(0, .ref 65), (1, .int seed), (2, .long (seed.toInt64 + 1)), (4, .int (nI n))] [] σ1 0 0 := by
    intro f
    induction f with
    | zero => intro n σ1 hn hk hI hF hf; exact absurd hf (Nat.not_lt_zero _)
    | succ f ih =>
      intro n σ1 hn hk hI hF hf
      refine ev_iload dX7_winnerBy_8 rfl ?_
      refine ev_bipush (v := 28) dX7_winnerBy_10 (by decide) ?_
      refine ev_icmp_ge (tgt := 35) dX7_winnerBy_12 (by decide) (fun c1 => ?_) (fun c1 => ?_)
      · skip
        have c1n : 28 ≤ n := (nI_leI (a := 28) (b := n) (by omega) (by omega)).mp c1
        refine ev_iconst (v := 0) dX7_winnerBy_35 (by decide) ?_
        refine ev_istore (lv' := [(0, .ref 65), (1, .int seed), (2, .long (seed.toInt64 + 1)), (4, .int 0)]) dX7_winnerBy_36 (by decide) rfl ?_
        have lq : ∀ (f : Nat) (m : Nat) (σ2 : am_M), (m ≤ 4 * s_np A) → (∀ k, k < 28 → σ2.2.1 88 k = A 70 k) → (iv_M (s_dr A (seed.toInt64 + 1) m) σ2) → (fr_W σ σ2) → 4 * s_np A - m < f → am_Ev G mX7_winnerBy (am_R (D + 10) 0 0) 0 0 (am_qW A (.int (nI (s_wb A seed))) σ) 38 [(0, .ref 65), (1, .int seed), (2, .long (s_lk (seed.toInt64 + 1) m)), (4, .int (nI m))] [] σ2 0 0 := by
          intro f
          induction f with
          | zero => intro m σ2 hm hk2 hI2 hF2 hf; exact absurd hf (Nat.not_lt_zero _)
          | succ f ih_lq =>
            intro m σ2 hm hk2 hI2 hF2 hf
            refine ev_iload dX7_winnerBy_38 rfl ?_
            refine ev_iconst (v := 4) dX7_winnerBy_40 (by decide) ?_
            refine ev_aload_n dX7_winnerBy_41 rfl rfl ?_
            refine ev_getI (v := nI (s_np A)) dX7_winnerBy_42 fl_X7_87 (ly_k hI2.ly 65 rfl) ((hI2.rd 65 0 rfl).trans ((s_dr_x (Or.inl (by decide))).trans (wf_np hA))) ?_
            refine ev_imul (v := nI (4 * (s_np A))) dX7_winnerBy_45 (pk_mul 4 (s_np A)) ?_
            refine ev_icmp_ge (tgt := 94) dX7_winnerBy_46 (by decide) (fun c2 => ?_) (fun c2 => ?_)
            · skip
              have c2n : (4 * (s_np A)) ≤ m := (nI_leI (a := (4 * (s_np A))) (b := m) (by omega) (by omega)).mp c2
              refine ev_aload_n dX7_winnerBy_94 rfl rfl ?_
              refine ev_callV (as := []) (st := []) dX7_winnerBy_95 mfX7_winner lk_X7_226 (ly_k hI2.ly 65 rfl) (by decide) rfl (c_X7_winner G D (s_dr A (seed.toInt64 + 1) m) σ2 (wf_dr hA m) hI2 ) rfl rfl (Nat.le_of_ble_eq_true rfl) (am_hR (by omega) (by decide)) ⟨Nat.le_refl _, Nat.le_refl _⟩ ?_
              rintro _ σ3 ⟨rfl, hI3, hF3⟩
              have hkw : ∀ k, k < 28 → σ3.2.1 88 k = A 70 k := fun k hk4 => (congrFun (hF3.2.2 88 (by decide)) k).trans (hk2 k hk4)
              refine ev_istore (lv' := [(0, .ref 65), (1, .int seed), (2, .long (s_lk (seed.toInt64 + 1) m)), (4, .int (nI (s_wn (s_dr A (seed.toInt64 + 1) m))))]) dX7_winnerBy_98 (by decide) rfl ?_
              refine ev_iconst (v := 0) dX7_winnerBy_100 (by decide) ?_
              refine ev_istore (lv' := [(0, .ref 65), (1, .int seed), (2, .long (s_lk (seed.toInt64 + 1) m)), (4, .int (nI (s_wn (s_dr A (seed.toInt64 + 1) m)))), (5, .int 0)]) dX7_winnerBy_101 (by decide) rfl ?_
              have lr : ∀ (f : Nat) (r : Nat) (σ3 : am_M), (r ≤ 28) → (∀ k, k < 28 → σ3.2.1 88 k = A 70 k) → (iv_M (s_rb A (s_dr A (seed.toInt64 + 1) m) r) σ3) → (fr_W σ σ3) → 28 - r < f → am_Ev G mX7_winnerBy (am_R (D + 10) 0 0) 0 0 (am_qW A (.int (nI (s_wb A seed))) σ) 103 [(0, .ref 65), (1, .int seed), (2, .long (s_lk (seed.toInt64 + 1) m)), (4, .int (nI (s_wn (s_dr A (seed.toInt64 + 1) m)))), (5, .int (nI r))] [] σ3 0 0 := by
                intro f
                induction f with
                | zero => intro r σ3 hr hk3 hI3 hF3 hf; exact absurd hf (Nat.not_lt_zero _)
                | succ f ih_lr =>
                  intro r σ3 hr hk3 hI3 hF3 hf
                  refine ev_iload dX7_winnerBy_103 rfl ?_
                  refine ev_bipush (v := 28) dX7_winnerBy_105 (by decide) ?_
                  refine ev_icmp_ge (tgt := 130) dX7_winnerBy_107 (by decide) (fun c4 => ?_) (fun c4 => ?_)
                  · skip
                    have c4n : 28 ≤ r := (nI_leI (a := 28) (b := r) (by omega) (by omega)).mp c4
                    refine ev_iload dX7_winnerBy_130 rfl ?_
                    refine ev_reti dX7_winnerBy_132 rfl (Nat.zero_le _) (Nat.zero_le _) ?_
                    have e : r = 28 := by omega
                    subst e
                    have em : m = 4 * s_np A := by omega
                    exact ⟨by rw [em]; rfl, iv_M.cg hI3 (fun _ _ _ => by rw [s_rb_x (fun a k h => s_dr_x (by omega))]), hF3⟩
                  · skip
                    have c4n : ¬ 28 ≤ r := fun zz => c4 ((nI_leI (a := 28) (b := r) (by omega) (by omega)).mpr zz)
                    refine ev_aload_n dX7_winnerBy_110 rfl rfl ?_
                    refine ev_getR (b := 70) dX7_winnerBy_111 fl_X7_22 (ly_k hI3.ly 65 rfl) (ly_r hI3.ly 33 rfl) ?_
                    refine ev_iload dX7_winnerBy_114 rfl ?_
                    refine ev_aload_n dX7_winnerBy_116 rfl rfl ?_
                    refine ev_getR (b := 88) dX7_winnerBy_117 fl_X7_76 (ly_k hI3.ly 65 rfl) (ly_r hI3.ly 51 rfl) ?_
                    refine ev_iload dX7_winnerBy_120 rfl ?_
                    refine ev_iald (v := A 70 r) dX7_winnerBy_122 (ly_k hI3.ly 88 rfl) (am_ixn (by omega) (by decide)) (hk3 r (by omega)) ?_
                    refine ev_iast dX7_winnerBy_123 (ly_k hI3.ly 70 rfl) (am_ixn (by omega) (by decide)) ?_
                    refine ev_iinc (lv' := [(0, .ref 65), (1, .int seed), (2, .long (s_lk (seed.toInt64 + 1) m)), (4, .int (nI (s_wn (s_dr A (seed.toInt64 + 1) m)))), (5, .int (nI (r + 1)))]) (v := nI (r + 1)) dX7_winnerBy_124 rfl (nI_1 _) (by decide) rfl ?_
                    refine ev_goto (tgt := 103) dX7_winnerBy_127 (by decide) ?_
                    exact ih_lr (r + 1) (am_sI σ3 70 r (A 70 r)) (by omega) (fun k hk4 => am_k88 (hk3 k hk4)) (iv_M.up hI3) (fr_W.wr (by decide) hF3) (by omega)
              exact lr _ 0 σ3 (by omega) hkw hI3 (fr_W.tr hF2 hF3.w) (Nat.lt_succ_self _)
            · skip
              have c2n : ¬ (4 * (s_np A)) ≤ m := fun zz => c2 ((nI_leI (a := (4 * (s_np A))) (b := m) (by omega) (by omega)).mpr zz)
              refine ev_lload_n dX7_winnerBy_49 rfl rfl ?_
              refine ev_ldc2 dX7_winnerBy_50 ct_X7_260 ?_
              refine ev_lmul (v := (s_lk (seed.toInt64 + 1) m) * 48271) dX7_winnerBy_53 rfl ?_
              refine ev_ldc2 dX7_winnerBy_54 ct_X7_262 ?_
              refine ev_lrem (v := s_lk (seed.toInt64 + 1) (m + 1)) dX7_winnerBy_57 (by decide) rfl ?_
              refine ev_lstore_n (lv' := [(0, .ref 65), (1, .int seed), (2, .long (s_lk (seed.toInt64 + 1) (m + 1))), (4, .int (nI m))]) dX7_winnerBy_58 rfl (by decide) rfl ?_
              refine ev_aload_n dX7_winnerBy_59 rfl rfl ?_
              refine ev_getR (b := 70) dX7_winnerBy_60 fl_X7_22 (ly_k hI2.ly 65 rfl) (ly_r hI2.ly 33 rfl) ?_
              refine ev_iload dX7_winnerBy_63 rfl ?_
              refine ev_aload_n dX7_winnerBy_65 rfl rfl ?_
              refine ev_getR (b := 70) dX7_winnerBy_66 fl_X7_22 (ly_k hI2.ly 65 rfl) (ly_r hI2.ly 33 rfl) ?_
              refine ev_iload dX7_winnerBy_69 rfl ?_
              refine ev_iald (v := A 70 m) dX7_winnerBy_71 (ly_k hI2.ly 70 rfl) (am_ixn (by omega) (by decide)) ((hI2.rd 70 m rfl).trans (s_dr_x (Or.inr (Nat.le_refl _)))) ?_
              refine ev_lload_n dX7_winnerBy_72 rfl rfl ?_
              refine ev_ldc2 dX7_winnerBy_73 ct_X7_264 ?_
              refine ev_lrem (v := (s_lk (seed.toInt64 + 1) (m + 1)) - (s_lk (seed.toInt64 + 1) (m + 1)) / 3 * 3) dX7_winnerBy_76 (by decide) rfl ?_
              refine ev_l2i (v := ((s_lk (seed.toInt64 + 1) (m + 1)) - (s_lk (seed.toInt64 + 1) (m + 1)) / 3 * 3 : Int64).toInt32) dX7_winnerBy_77 rfl ?_
              refine ev_iadd (v := (A 70 m) + (((s_lk (seed.toInt64 + 1) (m + 1)) - (s_lk (seed.toInt64 + 1) (m + 1)) / 3 * 3 : Int64).toInt32)) dX7_winnerBy_78 rfl ?_
              refine ev_iconst (v := 1) dX7_winnerBy_79 (by decide) ?_
              refine ev_isub (v := ((A 70 m) + (((s_lk (seed.toInt64 + 1) (m + 1)) - (s_lk (seed.toInt64 + 1) (m + 1)) / 3 * 3 : Int64).toInt32)) - 1) dX7_winnerBy_80 rfl ?_
              refine ev_iconst (v := 0) dX7_winnerBy_81 (by decide) ?_
              refine ev_bipush (v := 9) dX7_winnerBy_82 (by decide) ?_
              refine ev_callS (as := [.int (((A 70 m) + (((s_lk (seed.toInt64 + 1) (m + 1)) - (s_lk (seed.toInt64 + 1) (m + 1)) / 3 * 3 : Int64).toInt32)) - 1), .int 0, .int 9]) (st := [.int (nI m), .ref 70]) dX7_winnerBy_84 mfX7_within lk_X7_170 (c_X7_within G (D + 9) σ2 (((A 70 m) + (((s_lk (seed.toInt64 + 1) (m + 1)) - (s_lk (seed.toInt64 + 1) (m + 1)) / 3 * 3 : Int64).toInt32)) - 1) 0 9) rfl rfl (Nat.le_of_ble_eq_true rfl) (am_hR (by omega) (by decide)) ⟨Nat.le_refl _, Nat.le_refl _⟩ ?_
              rintro _ _ ⟨rfl, rfl⟩
              refine ev_iast dX7_winnerBy_87 (ly_k hI2.ly 70 rfl) (am_ixn (by omega) (by decide)) ?_
              refine ev_iinc (lv' := [(0, .ref 65), (1, .int seed), (2, .long (s_lk (seed.toInt64 + 1) (m + 1))), (4, .int (nI (m + 1)))]) (v := nI (m + 1)) dX7_winnerBy_88 rfl (nI_1 _) (by decide) rfl ?_
              refine ev_goto (tgt := 38) dX7_winnerBy_91 (by decide) ?_
              exact ih_lq (m + 1) (am_sI σ2 70 m (am_bd (((A 70 m) + (((s_lk (seed.toInt64 + 1) (m + 1)) - (s_lk (seed.toInt64 + 1) (m + 1)) / 3 * 3 : Int64).toInt32)) - 1) 0 9)) (by omega) (fun k hk3 => am_k88 (hk2 k hk3)) (iv_M.up hI2) (fr_W.wr (by decide) hF2) (by omega)
        exact lq _ 0 σ1 (by omega) (by have e : n = 28 := (by omega); subst e; exact hk) hI hF (Nat.lt_succ_self _)
      · skip
        have c1n : ¬ 28 ≤ n := fun zz => c1 ((nI_leI (a := 28) (b := n) (by omega) (by omega)).mpr zz)
        refine ev_aload_n dX7_winnerBy_15 rfl rfl ?_
        refine ev_getR (b := 88) dX7_winnerBy_16 fl_X7_76 (ly_k hI.ly 65 rfl) (ly_r hI.ly 51 rfl) ?_
        refine ev_iload dX7_winnerBy_19 rfl ?_
        refine ev_aload_n dX7_winnerBy_21 rfl rfl ?_
        refine ev_getR (b := 70) dX7_winnerBy_22 fl_X7_22 (ly_k hI.ly 65 rfl) (ly_r hI.ly 33 rfl) ?_
        refine ev_iload dX7_winnerBy_25 rfl ?_
        refine ev_iald (v := A 70 n) dX7_winnerBy_27 (ly_k hI.ly 70 rfl) (am_ixn (by omega) (by decide)) (hI.rd 70 n rfl) ?_
        refine ev_iast dX7_winnerBy_28 (ly_k hI.ly 88 rfl) (am_ixn (by omega) (by decide)) ?_
        refine ev_iinc (lv' := [(0, .ref 65), (1, .int seed), (2, .long (seed.toInt64 + 1)), (4, .int (nI (n + 1)))]) (v := nI (n + 1)) dX7_winnerBy_29 rfl (nI_1 _) (by decide) rfl ?_
        refine ev_goto (tgt := 8) dX7_winnerBy_32 (by decide) ?_
        exact ih (n + 1) (am_sI σ1 88 n (A 70 n)) (by omega) (fun k hk2 => by by_cases e : k = n; (subst e; exact am_us); exact (am_uk e).trans (hk k (by omega))) (iv_M.sc rfl hI) (fr_W.wr (by decide) hF) (by omega)
  exact lp _ 0 σ (by omega) (fun k hk => absurd hk (Nat.not_lt_zero k)) hI fr_W.rf (Nat.lt_succ_self _)

set_option maxHeartbeats 400000 in
set_option maxRecDepth 100000 in
theorem c_X7_drawn (G : am_G) (D : Nat) (A : am_S) (σ : am_M) (hA : wf_A A) (hI : iv_M A σ) (seed : Int32) : am_Mt G (D + 11) mX7_drawn [.ref 65, .int seed] σ 0 0 (am_qW A (.int (sp_drawn A seed)) σ) := by
  have b7 := wf_np7 hA
  have b8 := wf_nq8 hA
  have b6 := wf_nt6 hA
  have b61 := wf_nt1 hA
  have b160 := wf_tp160 hA
  have brl := wf_rlt hA
  refine am_of moX7_drawn (Nat.le_of_ble_eq_true rfl) ?_
  show am_Ev G mX7_drawn (am_R (D + 11) 0 0) 0 0 (am_qW A (.int (sp_drawn A seed)) σ) 0 [(0, .ref 65), (1, .int seed)] [] σ 0 0
  refine ev_iload_n dX7_drawn_0 rfl rfl ?_
  refine ev_iconst (v := 0) dX7_drawn_1 (by decide) ?_
  refine ev_ldcw dX7_drawn_2 ct_X7_266 ?_
  refine ev_callS (as := [.int seed, .int 0, .int 99999]) (st := []) dX7_drawn_5 mfX7_in lk_X7_90 (c_X7_in G (D + 10) σ seed 0 99999) rfl rfl (Nat.le_of_ble_eq_true rfl) (am_hR (by omega) (by decide)) ⟨Nat.le_refl _, Nat.le_refl _⟩ ?_
  rintro _ _ (⟨h1, rfl, rfl⟩ | ⟨h1, rfl, rfl⟩)
  · skip
    have hk := (am_inR (n := 100000) (by decide)).mpr ((am_rgl (n := 100000) (by decide)).mp h1)
    refine ev_if_eq (tgt := 19) dX7_drawn_8 (by decide) (fun c => absurd c (by decide)) (fun _ => ?_)
    refine ev_aload_n dX7_drawn_11 rfl rfl ?_
    refine ev_iload_n dX7_drawn_12 rfl rfl ?_
    refine ev_callV (as := [.int seed]) (st := []) dX7_drawn_13 mfX7_winnerBy lk_X7_267 (ly_k hI.ly 65 rfl) (by decide) rfl (c_X7_winnerBy G D A σ hA hI seed) rfl rfl (Nat.le_of_ble_eq_true rfl) (am_hR (by omega) (by decide)) ⟨Nat.le_refl _, Nat.le_refl _⟩ ?_
    rintro _ σ2 ⟨rfl, hI2, hF2⟩
    refine ev_goto (tgt := 21) dX7_drawn_16 (by decide) ?_
    refine ev_reti dX7_drawn_21 rfl (Nat.zero_le _) (Nat.zero_le _) ?_
    exact ⟨by simp [sp_drawn, hk], hI2, (fr_W.tr fr_W.rf hF2)⟩
  · skip
    have hk := am_inF (n := 100000) (by decide) (fun q => h1 ((am_rgl (n := 100000) (by decide)).mpr q))
    refine ev_if_eq (tgt := 19) dX7_drawn_8 (by decide) (fun _ => ?_) (fun c => absurd (by decide) c)
    refine ev_bipush (v := (-2)) dX7_drawn_19 (by decide) ?_
    refine ev_reti dX7_drawn_21 rfl (Nat.zero_le _) (Nat.zero_le _) ?_
    exact ⟨by simp [sp_drawn, hk], hI, fr_W.rf⟩

set_option maxHeartbeats 400000 in
set_option maxRecDepth 100000 in
theorem c_X7_odds (G : am_G) (D : Nat) (A : am_S) (σ : am_M) (hA : wf_A A) (hI : iv_M A σ) (seed n t w : Int32) : am_Mt G (D + 11) mX7_odds [.ref 65, .int seed, .int n, .int t, .int w] σ 0 0 (am_qW A (.long (sp_odds A seed n t w)) σ) := by
  have b7 := wf_np7 hA
  have b8 := wf_nq8 hA
  have b6 := wf_nt6 hA
  have b61 := wf_nt1 hA
  have b160 := wf_tp160 hA
  have brl := wf_rlt hA
  refine am_of moX7_odds (Nat.le_of_ble_eq_true rfl) ?_
  show am_Ev G mX7_odds (am_R (D + 11) 0 0) 0 0 (am_qW A (.long (sp_odds A seed n t w)) σ) 0 [(0, .ref 65), (1, .int seed), (2, .int n), (3, .int t), (4, .int w)] [] σ 0 0
  refine ev_iload_n dX7_odds_0 rfl rfl ?_
  refine ev_iconst (v := 0) dX7_odds_1 (by decide) ?_
  refine ev_ldcw dX7_odds_2 ct_X7_266 ?_
  refine ev_callS (as := [.int seed, .int 0, .int 99999]) (st := []) dX7_odds_5 mfX7_in lk_X7_90 (c_X7_in G (D + 10) σ seed 0 99999) rfl rfl (Nat.le_of_ble_eq_true rfl) (am_hR (by omega) (by decide)) ⟨Nat.le_refl _, Nat.le_refl _⟩ ?_
  rintro _ _ (⟨h1, rfl, rfl⟩ | ⟨h1, rfl, rfl⟩)
  · skip
    have hk := (am_inR (n := 100000) (by decide)).mpr ((am_rgl (n := 100000) (by decide)).mp h1)
    refine ev_if_eq (tgt := 38) dX7_odds_8 (by decide) (fun c => absurd c (by decide)) (fun _ => ?_)
    refine ev_iload_n dX7_odds_11 rfl rfl ?_
    refine ev_iconst (v := 1) dX7_odds_12 (by decide) ?_
    refine ev_bipush (v := 30) dX7_odds_13 (by decide) ?_
    refine ev_callS (as := [.int n, .int 1, .int 30]) (st := []) dX7_odds_15 mfX7_in lk_X7_90 (c_X7_in G (D + 10) σ n 1 30) rfl rfl (Nat.le_of_ble_eq_true rfl) (am_hR (by omega) (by decide)) ⟨Nat.le_refl _, Nat.le_refl _⟩ ?_
    rintro _ _ (⟨h2, rfl, rfl⟩ | ⟨h2, rfl, rfl⟩)
    · skip
      obtain ⟨jn, hj1, hj30, rfl⟩ := am_130 h2
      refine ev_if_eq (tgt := 38) dX7_odds_18 (by decide) (fun c => absurd c (by decide)) (fun _ => ?_)
      refine ev_iload_n dX7_odds_21 rfl rfl ?_
      refine ev_callS (as := [.int t]) (st := []) dX7_odds_22 mfX7_isTable lk_X7_183 (c_X7_isTable G (D + 9) σ t) rfl rfl (Nat.le_of_ble_eq_true rfl) (am_hR (by omega) (by decide)) ⟨Nat.le_refl _, Nat.le_refl _⟩ ?_
      rintro _ _ (⟨⟨j3, h3, rfl⟩, rfl, rfl⟩ | ⟨h3, rfl, rfl⟩)
      · skip
        refine ev_if_eq (tgt := 38) dX7_odds_25 (by decide) (fun c => absurd c (by decide)) (fun _ => ?_)
        refine ev_iload dX7_odds_28 rfl ?_
        refine ev_iconst (v := 0) dX7_odds_30 (by decide) ?_
        refine ev_iconst (v := 1) dX7_odds_31 (by decide) ?_
        refine ev_callS (as := [.int w, .int 0, .int 1]) (st := []) dX7_odds_32 mfX7_in lk_X7_90 (c_X7_in G (D + 10) σ w 0 1) rfl rfl (Nat.le_of_ble_eq_true rfl) (am_hR (by omega) (by decide)) ⟨Nat.le_refl _, Nat.le_refl _⟩ ?_
        rintro _ _ (⟨h4, rfl, rfl⟩ | ⟨h4, rfl, rfl⟩)
        · skip
          rcases am_v1 h4 with rfl | rfl
          · skip
            refine ev_if_ne (tgt := 42) dX7_odds_35 (by decide) (fun _ => ?_) (fun c => absurd c (by decide))
            refine ev_lconst (v := 0) dX7_odds_42 (by decide) ?_
            refine ev_lstore (lv' := [(0, .ref 65), (1, .int seed), (2, .int (nI jn)), (3, .int (nI j3)), (4, .int 0), (5, .long 0)]) dX7_odds_43 (by decide) rfl ?_
            refine ev_iconst (v := 0) dX7_odds_45 (by decide) ?_
            refine ev_istore (lv' := [(0, .ref 65), (1, .int seed), (2, .int (nI jn)), (3, .int (nI j3)), (4, .int 0), (5, .long 0), (7, .int 0)]) dX7_odds_46 (by decide) rfl ?_
            have lp : ∀ (f : Nat) (k : Nat) (σ1 : am_M), (k ≤ jn) → (iv_M A σ1) → (fr_W σ σ1) → jn - k < f → am_Ev G mX7_odds (am_R (D + 11) 0 0) 0 0 (am_qW A (.long (sp_odds A seed (nI jn) (nI j3) 0)) σ) 48 [(0, .ref 65), (1, .int seed), (2, .int (nI jn)), (3, .int (nI j3)), (4, .int 0), (5, .long (lN (s_od A seed j3 k))), (7, .int (nI k))] [] σ1 0 0 := by
              intro f
              induction f with
              | zero => intro k σ1 hk2 hI hF hf; exact absurd hf (Nat.not_lt_zero _)
              | succ f ih =>
                intro k σ1 hk2 hI hF hf
                refine ev_iload dX7_odds_48 rfl ?_
                refine ev_iload_n dX7_odds_50 rfl rfl ?_
                refine ev_icmp_ge (tgt := 82) dX7_odds_51 (by decide) (fun c5 => ?_) (fun c5 => ?_)
                · skip
                  have c5n : jn ≤ k := (nI_leI (a := jn) (b := k) (by omega) (by omega)).mp c5
                  refine ev_lload dX7_odds_82 rfl ?_
                  have hod := s_odle (A := A) (x := seed) (T := j3) k
                  refine ev_iload_n dX7_odds_84 rfl rfl ?_
                  refine ev_i2l (v := lN jn) dX7_odds_85 (nI_l (by omega)) ?_
                  refine ev_iload dX7_odds_86 rfl ?_
                  refine ev_callS (as := [.long (lN (s_od A seed j3 k)), .long (lN jn), .int 0]) (st := []) dX7_odds_88 mfX7_lowest lk_X7_247 (c_X7_lowest G (D + 10) σ1 (s_od A seed j3 k) jn 0 (by omega) (by omega) (by omega) (Or.inl rfl)) rfl rfl (Nat.le_of_ble_eq_true rfl) (am_hR (by omega) (by decide)) ⟨Nat.le_refl _, Nat.le_refl _⟩ ?_
                  rintro _ _ ⟨rfl, rfl⟩
                  refine ev_retl dX7_odds_91 rfl (Nat.zero_le _) (Nat.zero_le _) ?_
                  have e : k = jn := by omega
                  subst e
                  refine ⟨?_, hI, hF⟩
                  have e : sp_odds A seed (nI k) (nI j3) 0 = s_lo (s_od A seed j3 k) k true := by
                    unfold sp_odds
                    rw [hk, am_inN h3 (by omega), sN_n (show j3 < 2 ^ 31 by omega), sN_n (show k < 2 ^ 31 by omega), decide_eq_true (show (1 : Int32) ≤ nI k from (nI_leI (a := 1) (b := k) (by decide) (by omega)).mpr (by omega)), decide_eq_true (show nI k ≤ 30 from (nI_leI (a := k) (b := 30) (by omega) (by decide)).mpr (by omega))]
                    simp
                  rw [e]
                  simp
                · skip
                  have c5n : ¬ jn ≤ k := fun zz => c5 ((nI_leI (a := jn) (b := k) (by omega) (by omega)).mpr zz)
                  refine ev_lload dX7_odds_54 rfl ?_
                  refine ev_aload_n dX7_odds_56 rfl rfl ?_
                  refine ev_iload_n dX7_odds_57 rfl rfl ?_
                  refine ev_iload dX7_odds_58 rfl ?_
                  refine ev_iadd (v := seed + (nI k)) dX7_odds_60 rfl ?_
                  refine ev_callV (as := [.int (seed + (nI k))]) (st := [.long (lN (s_od A seed j3 k))]) dX7_odds_61 mfX7_winnerBy lk_X7_267 (ly_k hI.ly 65 rfl) (by decide) rfl (c_X7_winnerBy G D A σ1 hA hI (seed + (nI k))) rfl rfl (Nat.le_of_ble_eq_true rfl) (am_hR (by omega) (by decide)) ⟨Nat.le_refl _, Nat.le_refl _⟩ ?_
                  rintro _ σ6 ⟨rfl, hI6, hF6⟩
                  have hwn : s_wb A (seed + nI k) < 3 := s_wn3 _
                  refine ev_iload_n dX7_odds_64 rfl rfl ?_
                  refine ev_icmp_ne (tgt := 72) dX7_odds_65 (by decide) (fun c7 => ?_) (fun c7 => ?_)
                  · skip
                    have c7n : ¬ (s_wb A (seed + (nI k))) = j3 := fun zz => c7 ((nI_eq (a := (s_wb A (seed + (nI k)))) (b := j3) (by omega) (by omega)).mpr zz)
                    refine ev_lconst (v := 0) dX7_odds_72 (by decide) ?_
                    refine ev_ladd (v := lN (s_od A seed j3 (k + 1))) dX7_odds_73 (s_odN c7n) ?_
                    refine ev_lstore (lv' := [(0, .ref 65), (1, .int seed), (2, .int (nI jn)), (3, .int (nI j3)), (4, .int 0), (5, .long (lN (s_od A seed j3 (k + 1)))), (7, .int (nI k))]) dX7_odds_74 (by decide) rfl ?_
                    refine ev_iinc (lv' := [(0, .ref 65), (1, .int seed), (2, .int (nI jn)), (3, .int (nI j3)), (4, .int 0), (5, .long (lN (s_od A seed j3 (k + 1)))), (7, .int (nI (k + 1)))]) (v := nI (k + 1)) dX7_odds_76 rfl (nI_1 _) (by decide) rfl ?_
                    refine ev_goto (tgt := 48) dX7_odds_79 (by decide) ?_
                    exact ih (k + 1) σ6 (by omega) hI6 (fr_W.tr hF hF6) (by omega)
                  · skip
                    have c7n : (s_wb A (seed + (nI k))) = j3 := (nI_eq (a := (s_wb A (seed + (nI k)))) (b := j3) (by omega) (by omega)).mp c7
                    refine ev_lconst (v := 1) dX7_odds_68 (by decide) ?_
                    refine ev_goto (tgt := 73) dX7_odds_69 (by decide) ?_
                    refine ev_ladd (v := lN (s_od A seed j3 (k + 1))) dX7_odds_73 (s_odY c7n) ?_
                    refine ev_lstore (lv' := [(0, .ref 65), (1, .int seed), (2, .int (nI jn)), (3, .int (nI j3)), (4, .int 0), (5, .long (lN (s_od A seed j3 (k + 1)))), (7, .int (nI k))]) dX7_odds_74 (by decide) rfl ?_
                    refine ev_iinc (lv' := [(0, .ref 65), (1, .int seed), (2, .int (nI jn)), (3, .int (nI j3)), (4, .int 0), (5, .long (lN (s_od A seed j3 (k + 1)))), (7, .int (nI (k + 1)))]) (v := nI (k + 1)) dX7_odds_76 rfl (nI_1 _) (by decide) rfl ?_
                    refine ev_goto (tgt := 48) dX7_odds_79 (by decide) ?_
                    exact ih (k + 1) σ6 (by omega) hI6 (fr_W.tr hF hF6) (by omega)
            exact lp _ 0 σ (by omega) hI fr_W.rf (Nat.lt_succ_self _)
          · skip
            refine ev_if_ne (tgt := 42) dX7_odds_35 (by decide) (fun _ => ?_) (fun c => absurd c (by decide))
            refine ev_lconst (v := 0) dX7_odds_42 (by decide) ?_
            refine ev_lstore (lv' := [(0, .ref 65), (1, .int seed), (2, .int (nI jn)), (3, .int (nI j3)), (4, .int 1), (5, .long 0)]) dX7_odds_43 (by decide) rfl ?_
            refine ev_iconst (v := 0) dX7_odds_45 (by decide) ?_
            refine ev_istore (lv' := [(0, .ref 65), (1, .int seed), (2, .int (nI jn)), (3, .int (nI j3)), (4, .int 1), (5, .long 0), (7, .int 0)]) dX7_odds_46 (by decide) rfl ?_
            have lp : ∀ (f : Nat) (k : Nat) (σ1 : am_M), (k ≤ jn) → (iv_M A σ1) → (fr_W σ σ1) → jn - k < f → am_Ev G mX7_odds (am_R (D + 11) 0 0) 0 0 (am_qW A (.long (sp_odds A seed (nI jn) (nI j3) 1)) σ) 48 [(0, .ref 65), (1, .int seed), (2, .int (nI jn)), (3, .int (nI j3)), (4, .int 1), (5, .long (lN (s_od A seed j3 k))), (7, .int (nI k))] [] σ1 0 0 := by
              intro f
              induction f with
              | zero => intro k σ1 hk2 hI hF hf; exact absurd hf (Nat.not_lt_zero _)
              | succ f ih =>
                intro k σ1 hk2 hI hF hf
                refine ev_iload dX7_odds_48 rfl ?_
                refine ev_iload_n dX7_odds_50 rfl rfl ?_
                refine ev_icmp_ge (tgt := 82) dX7_odds_51 (by decide) (fun c8 => ?_) (fun c8 => ?_)
                · skip
                  have c8n : jn ≤ k := (nI_leI (a := jn) (b := k) (by omega) (by omega)).mp c8
                  refine ev_lload dX7_odds_82 rfl ?_
                  have hod := s_odle (A := A) (x := seed) (T := j3) k
                  refine ev_iload_n dX7_odds_84 rfl rfl ?_
                  refine ev_i2l (v := lN jn) dX7_odds_85 (nI_l (by omega)) ?_
                  refine ev_iload dX7_odds_86 rfl ?_
                  refine ev_callS (as := [.long (lN (s_od A seed j3 k)), .long (lN jn), .int 1]) (st := []) dX7_odds_88 mfX7_lowest lk_X7_247 (c_X7_lowest G (D + 10) σ1 (s_od A seed j3 k) jn 1 (by omega) (by omega) (by omega) (Or.inr rfl)) rfl rfl (Nat.le_of_ble_eq_true rfl) (am_hR (by omega) (by decide)) ⟨Nat.le_refl _, Nat.le_refl _⟩ ?_
                  rintro _ _ ⟨rfl, rfl⟩
                  refine ev_retl dX7_odds_91 rfl (Nat.zero_le _) (Nat.zero_le _) ?_
                  have e : k = jn := by omega
                  subst e
                  refine ⟨?_, hI, hF⟩
                  have e : sp_odds A seed (nI k) (nI j3) 1 = s_lo (s_od A seed j3 k) k false := by
                    unfold sp_odds
                    rw [hk, am_inN h3 (by omega), sN_n (show j3 < 2 ^ 31 by omega), sN_n (show k < 2 ^ 31 by omega), decide_eq_true (show (1 : Int32) ≤ nI k from (nI_leI (a := 1) (b := k) (by decide) (by omega)).mpr (by omega)), decide_eq_true (show nI k ≤ 30 from (nI_leI (a := k) (b := 30) (by omega) (by decide)).mpr (by omega))]
                    simp
                  rw [e]
                  simp
                · skip
                  have c8n : ¬ jn ≤ k := fun zz => c8 ((nI_leI (a := jn) (b := k) (by omega) (by omega)).mpr zz)
                  refine ev_lload dX7_odds_54 rfl ?_
                  refine ev_aload_n dX7_odds_56 rfl rfl ?_
                  refine ev_iload_n dX7_odds_57 rfl rfl ?_
                  refine ev_iload dX7_odds_58 rfl ?_
                  refine ev_iadd (v := seed + (nI k)) dX7_odds_60 rfl ?_
                  refine ev_callV (as := [.int (seed + (nI k))]) (st := [.long (lN (s_od A seed j3 k))]) dX7_odds_61 mfX7_winnerBy lk_X7_267 (ly_k hI.ly 65 rfl) (by decide) rfl (c_X7_winnerBy G D A σ1 hA hI (seed + (nI k))) rfl rfl (Nat.le_of_ble_eq_true rfl) (am_hR (by omega) (by decide)) ⟨Nat.le_refl _, Nat.le_refl _⟩ ?_
                  rintro _ σ9 ⟨rfl, hI9, hF9⟩
                  have hwn : s_wb A (seed + nI k) < 3 := s_wn3 _
                  refine ev_iload_n dX7_odds_64 rfl rfl ?_
                  refine ev_icmp_ne (tgt := 72) dX7_odds_65 (by decide) (fun c10 => ?_) (fun c10 => ?_)
                  · skip
                    have c10n : ¬ (s_wb A (seed + (nI k))) = j3 := fun zz => c10 ((nI_eq (a := (s_wb A (seed + (nI k)))) (b := j3) (by omega) (by omega)).mpr zz)
                    refine ev_lconst (v := 0) dX7_odds_72 (by decide) ?_
                    refine ev_ladd (v := lN (s_od A seed j3 (k + 1))) dX7_odds_73 (s_odN c10n) ?_
                    refine ev_lstore (lv' := [(0, .ref 65), (1, .int seed), (2, .int (nI jn)), (3, .int (nI j3)), (4, .int 1), (5, .long (lN (s_od A seed j3 (k + 1)))), (7, .int (nI k))]) dX7_odds_74 (by decide) rfl ?_
                    refine ev_iinc (lv' := [(0, .ref 65), (1, .int seed), (2, .int (nI jn)), (3, .int (nI j3)), (4, .int 1), (5, .long (lN (s_od A seed j3 (k + 1)))), (7, .int (nI (k + 1)))]) (v := nI (k + 1)) dX7_odds_76 rfl (nI_1 _) (by decide) rfl ?_
                    refine ev_goto (tgt := 48) dX7_odds_79 (by decide) ?_
                    exact ih (k + 1) σ9 (by omega) hI9 (fr_W.tr hF hF9) (by omega)
                  · skip
                    have c10n : (s_wb A (seed + (nI k))) = j3 := (nI_eq (a := (s_wb A (seed + (nI k)))) (b := j3) (by omega) (by omega)).mp c10
                    refine ev_lconst (v := 1) dX7_odds_68 (by decide) ?_
                    refine ev_goto (tgt := 73) dX7_odds_69 (by decide) ?_
                    refine ev_ladd (v := lN (s_od A seed j3 (k + 1))) dX7_odds_73 (s_odY c10n) ?_
                    refine ev_lstore (lv' := [(0, .ref 65), (1, .int seed), (2, .int (nI jn)), (3, .int (nI j3)), (4, .int 1), (5, .long (lN (s_od A seed j3 (k + 1)))), (7, .int (nI k))]) dX7_odds_74 (by decide) rfl ?_
                    refine ev_iinc (lv' := [(0, .ref 65), (1, .int seed), (2, .int (nI jn)), (3, .int (nI j3)), (4, .int 1), (5, .long (lN (s_od A seed j3 (k + 1)))), (7, .int (nI (k + 1)))]) (v := nI (k + 1)) dX7_odds_76 rfl (nI_1 _) (by decide) rfl ?_
                    refine ev_goto (tgt := 48) dX7_odds_79 (by decide) ?_
                    exact ih (k + 1) σ9 (by omega) hI9 (fr_W.tr hF hF9) (by omega)
            exact lp _ 0 σ (by omega) hI fr_W.rf (Nat.lt_succ_self _)
        · skip
          have h4r := fun q => h4 ((am_rgl (n := 2) (by decide)).mpr q)
          have hw0 := am_w1 h4r
          refine ev_if_ne (tgt := 42) dX7_odds_35 (by decide) (fun c => absurd (by decide) c) (fun _ => ?_)
          refine ev_ldc2 dX7_odds_38 ct_X7_245 ?_
          refine ev_retl dX7_odds_41 rfl (Nat.zero_le _) (Nat.zero_le _) ?_
          refine ⟨?_, hI, fr_W.rf⟩
          have e : sp_odds A seed (nI jn) (nI j3) w = -4611686018427387904 := if_neg (fun z => by simp only [Bool.and_eq_true, Bool.or_eq_true, decide_eq_true_eq] at z; exact z.2.elim hw0.1 hw0.2)
          rw [e]
      · skip
        refine ev_if_eq (tgt := 38) dX7_odds_25 (by decide) (fun _ => ?_) (fun c => absurd (by decide) c)
        refine ev_ldc2 dX7_odds_38 ct_X7_245 ?_
        refine ev_retl dX7_odds_41 rfl (Nat.zero_le _) (Nat.zero_le _) ?_
        refine ⟨?_, hI, fr_W.rf⟩
        have e : sp_odds A seed (nI jn) t w = -4611686018427387904 := if_neg (fun z => by simp only [Bool.and_eq_true, Bool.or_eq_true, decide_eq_true_eq] at z; exact absurd z.1.2 (by rw [am_inF (by omega) h3]; decide))
        rw [e]
    · skip
      refine ev_if_eq (tgt := 38) dX7_odds_18 (by decide) (fun _ => ?_) (fun c => absurd (by decide) c)
      refine ev_ldc2 dX7_odds_38 ct_X7_245 ?_
      refine ev_retl dX7_odds_41 rfl (Nat.zero_le _) (Nat.zero_le _) ?_
      refine ⟨?_, hI, fr_W.rf⟩
      have e : sp_odds A seed n t w = -4611686018427387904 := if_neg (fun z => by simp only [Bool.and_eq_true, Bool.or_eq_true, decide_eq_true_eq] at z; exact h2 z.1.1.2)
      rw [e]
  · skip
    have hk := am_inF (n := 100000) (by decide) (fun q => h1 ((am_rgl (n := 100000) (by decide)).mpr q))
    refine ev_if_eq (tgt := 38) dX7_odds_8 (by decide) (fun _ => ?_) (fun c => absurd (by decide) c)
    refine ev_ldc2 dX7_odds_38 ct_X7_245 ?_
    refine ev_retl dX7_odds_41 rfl (Nat.zero_le _) (Nat.zero_le _) ?_
    refine ⟨?_, hI, fr_W.rf⟩
    have e : sp_odds A seed n t w = -4611686018427387904 := if_neg (fun z => by simp only [Bool.and_eq_true, Bool.or_eq_true, decide_eq_true_eq] at z; exact absurd z.1.1.1 (by rw [hk]; decide))
    rw [e]

