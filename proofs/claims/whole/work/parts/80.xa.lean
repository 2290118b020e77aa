/-! the class: good ones, alike, hires -/
theorem s_pgR {A : am_S} {q a b : Nat} (hn : s_rt A (s_se A b) q = true) : s_pg A q a b = 0 := s_pg0 (fun z => z.2.2 hn)
theorem s_pgL {A : am_S} {q a b : Nat} (hn : s_rt A (s_se A a) q = false) : s_pg A q a b = 0 := s_pg0 (fun z => by rw [hn] at z; exact Bool.false_ne_true z.2.1)
theorem s_g1L {A : am_S} {q a : Nat} {x : Int32} (hn : s_rt A (s_se A a) q = false) : s_g1 A q a x 3 = x := by
  rw [s_g1S, s_g1S, s_g1S, s_pgL hn, s_pgL hn, s_pgL hn]
  show x + 0 + 0 + 0 = x
  rw [Int32.add_zero, Int32.add_zero, Int32.add_zero]
theorem s_pgC {A : am_S} {q a b : Nat} (h8 : s_nq A ≤ 8) (hq : q < s_nq A) (ha : s_rt A (s_se A a) q = true) (hb : s_rt A (s_se A b) q = false) : s_pg A q a b = s_cmp (s_now A a - s_ps2 A a q) (s_now A b) := by
  rw [s_pg1 ⟨(fun z => by rw [z] at ha; rw [ha] at hb; cases hb), ha, (by rw [hb]; exact Bool.false_ne_true)⟩]
  obtain ⟨k, hk, e⟩ := s_nowD2 h8 hq ha
  obtain ⟨l, hl, e2⟩ := s_nowR h8 b
  rw [e, e2, s_cmpS (by omega) (by omega)]
set_option maxHeartbeats 400000 in
set_option maxRecDepth 100000 in
theorem c_X6_good (G : am_G) (D : Nat) (A : am_S) (σ : am_M) (hA : wf_A A) (hX : iv_X A σ) (q : Int32) : am_Mt G (D + 6) mX6_good [.ref 32, .int q] σ 0 0 (am_qC A (.int (sp_good A q)) σ) := by
  have b7 := wf_np7 hA
  have b8 := wf_nq8 hA
  have b6 := wf_nt6 hA
  have b61 := wf_nt1 hA
  have b160 := wf_tp160 hA
  have brl := wf_rlt hA
  refine am_of moX6_good (Nat.le_of_ble_eq_true rfl) ?_
  show am_Ev G mX6_good (am_R (D + 6) 0 0) 0 0 (am_qC A (.int (sp_good A q)) σ) 0 [(0, .ref 32), (1, .int q)] [] σ 0 0
  refine ev_aload_n dX6_good_0 rfl rfl ?_
  refine ev_iload_n dX6_good_1 rfl rfl ?_
  refine ev_callV (as := [.int q]) (st := []) dX6_good_2 mfX6_isQuestion lk_X6_155 (ly_k hX.ly 32 rfl) (by decide) rfl (c_X6_isQuestion G (D + 5) A σ hA hX q) rfl rfl (Nat.le_of_ble_eq_true rfl) (am_hR (by omega) (by decide)) ⟨Nat.le_refl _, Nat.le_refl _⟩ ?_
  rintro _ _ (⟨⟨j1, h1, rfl⟩, rfl, rfl⟩ | ⟨h1, rfl, rfl⟩)
  · skip
    refine ev_if_ne (tgt := 11) dX6_good_5 (by decide) (fun _ => ?_) (fun c => absurd c (by decide))
    refine ev_aload_n dX6_good_11 rfl rfl ?_
    refine ev_callV (as := []) (st := []) dX6_good_12 mfX6_reckon lk_X6_164 (ly_k hX.ly 32 rfl) (by decide) rfl (c_X6_reckon G (D + 1) A σ hA hX ) rfl rfl (Nat.le_of_ble_eq_true rfl) (am_hR (by omega) (by decide)) ⟨Nat.le_refl _, Nat.le_refl _⟩ ?_
    rintro _ σ2 ⟨rfl, hX2, hF2, hc2, hr2⟩
    refine ev_iconst (v := 0) dX6_good_15 (by decide) ?_
    refine ev_istore_n (lv' := [(0, .ref 32), (1, .int (nI j1)), (2, .int 0)]) dX6_good_16 rfl (by decide) rfl ?_
    refine ev_iconst (v := 0) dX6_good_17 (by decide) ?_
    refine ev_istore_n (lv' := [(0, .ref 32), (1, .int (nI j1)), (2, .int 0), (3, .int 0)]) dX6_good_18 rfl (by decide) rfl ?_
    have lp : ∀ (f : Nat) (t : Nat) (sm : Int32), (t ≤ 3) → (sm = s_g2 A j1 t) → 3 - t < f → am_Ev G mX6_good (am_R (D + 6) 0 0) 0 0 (am_qC A (.int (sp_good A (nI j1))) σ) 19 [(0, .ref 32), (1, .int (nI j1)), (2, .int sm), (3, .int (nI t))] [] σ2 0 0 := by
      intro f
      induction f with
      | zero => intro t sm ht hsm hf; exact absurd hf (Nat.not_lt_zero _)
      | succ f ih =>
        intro t sm ht hsm hf
        refine ev_iload_n dX6_good_19 rfl rfl ?_
        refine ev_iconst (v := 3) dX6_good_20 (by decide) ?_
        refine ev_icmp_ge (tgt := 116) dX6_good_21 (by decide) (fun c3 => ?_) (fun c3 => ?_)
        · skip
          have c3n : 3 ≤ t := (nI_leI (a := 3) (b := t) (by omega) (by omega)).mp c3
          refine ev_iload_n dX6_good_116 rfl rfl ?_
          refine ev_reti dX6_good_117 rfl (Nat.zero_le _) (Nat.zero_le _) ?_
          have e : t = 3 := by omega
          subst e
          refine ⟨?_, hX2, (fr_C.tr fr_C.rf hF2)⟩
          simp [sp_good, am_inN h1 (by omega), sN_n (show j1 < 2 ^ 31 by omega), ← hsm]
        · skip
          have c3n : ¬ 3 ≤ t := fun zz => c3 ((nI_leI (a := 3) (b := t) (by omega) (by omega)).mpr zz)
          cases hrt : s_rt A (s_se A t) j1 with
          | true =>
            refine ev_aload_n dX6_good_24 rfl rfl ?_
            refine ev_getR (b := 59) dX6_good_25 fl_X6_59 (ly_k hX2.ly 32 rfl) (ly_r hX2.ly 9 rfl) ?_
            refine ev_iload_n dX6_good_28 rfl rfl ?_
            refine ev_iald (v := nI (mk_m (s_rt A (s_se A t)) (s_nq A))) dX6_good_29 (ly_k hX2.ly 59 rfl) (am_ixn (by omega) (by decide)) (hr2 t (by omega)) ?_
            refine ev_iload_n dX6_good_30 rfl rfl ?_
            refine ev_ishr (v := (nI (mk_m (s_rt A (s_se A t)) (s_nq A))) >>> ((nI j1) &&& 31)) dX6_good_31 rfl ?_
            refine ev_iconst (v := 1) dX6_good_32 (by decide) ?_
            refine ev_iand (v := 1) dX6_good_33 (by rw [mk_get (by omega) (by omega), hrt]; rfl) ?_
            refine ev_if_ne (tgt := 40) dX6_good_34 (by decide) (fun _ => ?_) (fun c => absurd c (by decide))
            refine ev_aload_n dX6_good_40 rfl rfl ?_
            refine ev_getR (b := 54) dX6_good_41 fl_X6_55 (ly_k hX2.ly 32 rfl) (ly_r hX2.ly 8 rfl) ?_
            refine ev_aload_n dX6_good_44 rfl rfl ?_
            refine ev_getR (b := 59) dX6_good_45 fl_X6_59 (ly_k hX2.ly 32 rfl) (ly_r hX2.ly 9 rfl) ?_
            refine ev_iload_n dX6_good_48 rfl rfl ?_
            refine ev_iald (v := nI (mk_m (s_rt A (s_se A t)) (s_nq A))) dX6_good_49 (ly_k hX2.ly 59 rfl) (am_ixn (by omega) (by decide)) (hr2 t (by omega)) ?_
            refine ev_iconst (v := 1) dX6_good_50 (by decide) ?_
            refine ev_iload_n dX6_good_51 rfl rfl ?_
            refine ev_ishl (v := 1 <<< ((nI j1) &&& 31)) dX6_good_52 rfl ?_
            refine ev_iconst (v := (-1)) dX6_good_53 (by decide) ?_
            refine ev_ixor (v := nI (2 ^ j1) ^^^ (-1)) dX6_good_54 (by rw [mk_1s (by omega)]) ?_
            refine ev_iand (v := nI (mk_m (fun z => (mk_m (s_rt A (s_se A t)) (s_nq A)).testBit z && !(2 ^ j1).testBit z) (s_nq A))) dX6_good_55 (mk_and2 (mk_lt _ _) (by omega)) ?_
            refine ev_aload_n dX6_good_56 rfl rfl ?_
            refine ev_getR (b := 36) dX6_good_57 fl_X6_22 (ly_k hX2.ly 32 rfl) (ly_r hX2.ly 3 rfl) ?_
            refine ev_iload_n dX6_good_60 rfl rfl ?_
            refine ev_iald (v := A 73 t) dX6_good_61 (ly_k hX2.ly 36 rfl) (am_ixn (by omega) (by decide)) (hX2.r36 t) ?_
            refine ev_callV (as := [.int (nI (mk_m (fun z => (mk_m (s_rt A (s_se A t)) (s_nq A)).testBit z && !(2 ^ j1).testBit z) (s_nq A))), .int (A 73 t)]) (st := []) dX6_good_62 mfX0_worth lk_X6_190 (ly_k hX2.ly 54 rfl) (by decide) rfl (by have hh := c_X0_worth G (D + 5) A σ2 hA hX2 (mk_m (fun z => (mk_m (s_rt A (s_se A t)) (s_nq A)).testBit z && !(2 ^ j1).testBit z) (s_nq A)) (mk_31 (by omega)) (A 73 t) hc2; rw [s_nowD (by omega) hrt] at hh; exact hh) rfl rfl (Nat.le_of_ble_eq_true rfl) (am_hR (by omega) (by decide)) ⟨Nat.le_refl _, Nat.le_refl _⟩ ?_
            rintro _ _ ⟨rfl, rfl⟩
            refine ev_istore (lv' := [(0, .ref 32), (1, .int (nI j1)), (2, .int sm), (3, .int (nI t)), (4, .int (s_now A t - s_ps2 A t j1))]) dX6_good_65 (by decide) rfl ?_
            refine ev_iconst (v := 0) dX6_good_67 (by decide) ?_
            refine ev_istore (lv' := [(0, .ref 32), (1, .int (nI j1)), (2, .int sm), (3, .int (nI t)), (4, .int (s_now A t - s_ps2 A t j1)), (5, .int 0)]) dX6_good_68 (by decide) rfl ?_
            have lq : ∀ (f : Nat) (o : Nat) (sm2 : Int32), (o ≤ 3) → (sm2 = s_g1 A j1 t (s_g2 A j1 t) o) → 3 - o < f → am_Ev G mX6_good (am_R (D + 6) 0 0) 0 0 (am_qC A (.int (sp_good A (nI j1))) σ) 70 [(0, .ref 32), (1, .int (nI j1)), (2, .int sm2), (3, .int (nI t)), (4, .int (s_now A t - s_ps2 A t j1)), (5, .int (nI o))] [] σ2 0 0 := by
              intro f
              induction f with
              | zero => intro o sm2 ho hsm2 hf; exact absurd hf (Nat.not_lt_zero _)
              | succ f ih_lq =>
                intro o sm2 ho hsm2 hf
                refine ev_iload dX6_good_70 rfl ?_
                refine ev_iconst (v := 3) dX6_good_72 (by decide) ?_
                refine ev_icmp_ge (tgt := 110) dX6_good_73 (by decide) (fun c4 => ?_) (fun c4 => ?_)
                · skip
                  have c4n : 3 ≤ o := (nI_leI (a := 3) (b := o) (by omega) (by omega)).mp c4
                  refine ev_iinc (lv' := [(0, .ref 32), (1, .int (nI j1)), (2, .int sm2), (3, .int (nI (t + 1))), (4, .int (s_now A t - s_ps2 A t j1)), (5, .int (nI o))]) (v := nI (t + 1)) dX6_good_110 rfl (nI_1 _) (by decide) rfl ?_
                  refine ev_goto (tgt := 19) dX6_good_113 (by decide) ?_
                  refine ev_keep (lv' := [(0, .ref 32), (1, .int (nI j1)), (2, .int sm2), (3, .int (nI (t + 1)))]) [0, 1, 2, 3] rfl ?_
                  exact ih (t + 1) sm2 (by omega) (by rw [hsm2, show o = 3 by omega]; rfl) (by omega)
                · skip
                  have c4n : ¬ 3 ≤ o := fun zz => c4 ((nI_leI (a := 3) (b := o) (by omega) (by omega)).mpr zz)
                  cases hro : s_rt A (s_se A o) j1 with
                  | true =>
                    refine ev_aload_n dX6_good_76 rfl rfl ?_
                    refine ev_getR (b := 59) dX6_good_77 fl_X6_59 (ly_k hX2.ly 32 rfl) (ly_r hX2.ly 9 rfl) ?_
                    refine ev_iload dX6_good_80 rfl ?_
                    refine ev_iald (v := nI (mk_m (s_rt A (s_se A o)) (s_nq A))) dX6_good_82 (ly_k hX2.ly 59 rfl) (am_ixn (by omega) (by decide)) (hr2 o (by omega)) ?_
                    refine ev_iload_n dX6_good_83 rfl rfl ?_
                    refine ev_ishr (v := (nI (mk_m (s_rt A (s_se A o)) (s_nq A))) >>> ((nI j1) &&& 31)) dX6_good_84 rfl ?_
                    refine ev_iconst (v := 1) dX6_good_85 (by decide) ?_
                    refine ev_iand (v := 1) dX6_good_86 (by rw [mk_get (by omega) (by omega), hro]; rfl) ?_
                    refine ev_if_ne (tgt := 104) dX6_good_87 (by decide) (fun _ => ?_) (fun c => absurd c (by decide))
                    refine ev_iinc (lv' := [(0, .ref 32), (1, .int (nI j1)), (2, .int sm2), (3, .int (nI t)), (4, .int (s_now A t - s_ps2 A t j1)), (5, .int (nI (o + 1)))]) (v := nI (o + 1)) dX6_good_104 rfl (nI_1 _) (by decide) rfl ?_
                    refine ev_goto (tgt := 70) dX6_good_107 (by decide) ?_
                    exact ih_lq (o + 1) sm2 (by omega) (by rw [hsm2, s_g1S, s_pgR hro, Int32.add_zero]) (by omega)
                  | false =>
                    refine ev_aload_n dX6_good_76 rfl rfl ?_
                    refine ev_getR (b := 59) dX6_good_77 fl_X6_59 (ly_k hX2.ly 32 rfl) (ly_r hX2.ly 9 rfl) ?_
                    refine ev_iload dX6_good_80 rfl ?_
                    refine ev_iald (v := nI (mk_m (s_rt A (s_se A o)) (s_nq A))) dX6_good_82 (ly_k hX2.ly 59 rfl) (am_ixn (by omega) (by decide)) (hr2 o (by omega)) ?_
                    refine ev_iload_n dX6_good_83 rfl rfl ?_
                    refine ev_ishr (v := (nI (mk_m (s_rt A (s_se A o)) (s_nq A))) >>> ((nI j1) &&& 31)) dX6_good_84 rfl ?_
                    refine ev_iconst (v := 1) dX6_good_85 (by decide) ?_
                    refine ev_iand (v := 0) dX6_good_86 (by rw [mk_get (by omega) (by omega), hro]; rfl) ?_
                    refine ev_if_ne (tgt := 104) dX6_good_87 (by decide) (fun c => absurd (by decide) c) (fun _ => ?_)
                    refine ev_iload_n dX6_good_90 rfl rfl ?_
                    refine ev_iload dX6_good_91 rfl ?_
                    refine ev_aload_n dX6_good_93 rfl rfl ?_
                    refine ev_iload dX6_good_94 rfl ?_
                    refine ev_callV (as := [.int (nI o)]) (st := [.int (s_now A t - s_ps2 A t j1), .int sm2]) dX6_good_96 mfX6_scoreNow lk_X6_177 (ly_k hX2.ly 32 rfl) (by decide) rfl (c_X6_scoreNow G (D + 4) A σ2 hA hX2 o (by omega) hc2 hr2) rfl rfl (Nat.le_of_ble_eq_true rfl) (am_hR (by omega) (by decide)) ⟨Nat.le_refl _, Nat.le_refl _⟩ ?_
                    rintro _ _ ⟨rfl, rfl⟩
                    refine ev_callS (as := [.int (s_now A t - s_ps2 A t j1), .int (s_now A o)]) (st := [.int sm2]) dX6_good_99 mfJ6_compare_7cf53 lk_X6_206 (c_compare G (D + 5) σ2 (s_now A t - s_ps2 A t j1) (s_now A o)) rfl rfl (Nat.le_of_ble_eq_true rfl) (am_hR (by omega) (by decide)) ⟨Nat.le_refl _, Nat.le_refl _⟩ ?_
                    rintro _ _ ⟨rfl, rfl⟩
                    refine ev_iadd (v := sm2 + (s_cmp (s_now A t - s_ps2 A t j1) (s_now A o))) dX6_good_102 rfl ?_
                    refine ev_istore_n (lv' := [(0, .ref 32), (1, .int (nI j1)), (2, .int (sm2 + (s_cmp (s_now A t - s_ps2 A t j1) (s_now A o)))), (3, .int (nI t)), (4, .int (s_now A t - s_ps2 A t j1)), (5, .int (nI o))]) dX6_good_103 rfl (by decide) rfl ?_
                    refine ev_iinc (lv' := [(0, .ref 32), (1, .int (nI j1)), (2, .int (sm2 + (s_cmp (s_now A t - s_ps2 A t j1) (s_now A o)))), (3, .int (nI t)), (4, .int (s_now A t - s_ps2 A t j1)), (5, .int (nI (o + 1)))]) (v := nI (o + 1)) dX6_good_104 rfl (nI_1 _) (by decide) rfl ?_
                    refine ev_goto (tgt := 70) dX6_good_107 (by decide) ?_
                    exact ih_lq (o + 1) (sm2 + (s_cmp (s_now A t - s_ps2 A t j1) (s_now A o))) (by omega) (by rw [hsm2, s_g1S, s_pgC b8 (by omega) hrt hro]) (by omega)
            exact lq _ 0 sm (Nat.zero_le _) hsm (Nat.lt_succ_self _)
          | false =>
            refine ev_aload_n dX6_good_24 rfl rfl ?_
            refine ev_getR (b := 59) dX6_good_25 fl_X6_59 (ly_k hX2.ly 32 rfl) (ly_r hX2.ly 9 rfl) ?_
            refine ev_iload_n dX6_good_28 rfl rfl ?_
            refine ev_iald (v := nI (mk_m (s_rt A (s_se A t)) (s_nq A))) dX6_good_29 (ly_k hX2.ly 59 rfl) (am_ixn (by omega) (by decide)) (hr2 t (by omega)) ?_
            refine ev_iload_n dX6_good_30 rfl rfl ?_
            refine ev_ishr (v := (nI (mk_m (s_rt A (s_se A t)) (s_nq A))) >>> ((nI j1) &&& 31)) dX6_good_31 rfl ?_
            refine ev_iconst (v := 1) dX6_good_32 (by decide) ?_
            refine ev_iand (v := 0) dX6_good_33 (by rw [mk_get (by omega) (by omega), hrt]; rfl) ?_
            refine ev_if_ne (tgt := 40) dX6_good_34 (by decide) (fun c => absurd (by decide) c) (fun _ => ?_)
            refine ev_goto (tgt := 110) dX6_good_37 (by decide) ?_
            refine ev_iinc (lv' := [(0, .ref 32), (1, .int (nI j1)), (2, .int sm), (3, .int (nI (t + 1)))]) (v := nI (t + 1)) dX6_good_110 rfl (nI_1 _) (by decide) rfl ?_
            refine ev_goto (tgt := 19) dX6_good_113 (by decide) ?_
            exact ih (t + 1) sm (by omega) (by rw [hsm]; exact (s_g1L hrt).symm) (by omega)
    exact lp _ 0 0 (Nat.zero_le _) rfl (Nat.lt_succ_self _)
  · skip
    refine ev_if_ne (tgt := 11) dX6_good_5 (by decide) (fun c => absurd (by decide) c) (fun _ => ?_)
    refine ev_ldc dX6_good_8 ct_X6_205 ?_
    refine ev_reti dX6_good_10 rfl (Nat.zero_le _) (Nat.zero_le _) ?_
    refine ⟨?_, hX, fr_C.rf⟩
    simp [sp_good, am_inF (by omega) h1]

set_option maxHeartbeats 400000 in
set_option maxRecDepth 100000 in
theorem c_X6_lowest (G : am_G) (D : Nat) (σ : am_M) (a b : Nat) (w : Int32) (ha : a ≤ 30) (hb : b ≤ 30) (hb0 : 0 < b) : am_Mt G D mX6_lowest [.int (nI a), .int (nI b), .int w] σ 0 0 (am_q (.long (s_lo a b (decide (w = 0)))) σ) := by
  refine am_of moX6_lowest (Nat.le_of_ble_eq_true rfl) ?_
  show am_Ev G mX6_lowest (am_R D 0 0) 0 0 (am_q (.long (s_lo a b (decide (w = 0)))) σ) 0 [(0, .int (nI a)), (1, .int (nI b)), (2, .int w)] [] σ 0 0
  refine ev_iload_n dX6_lowest_0 rfl rfl ?_
  refine ev_istore_n (lv' := [(0, .int (nI a)), (1, .int (nI b)), (2, .int w), (3, .int (nI b))]) dX6_lowest_1 rfl (by decide) rfl ?_
  refine ev_iload_n dX6_lowest_2 rfl rfl ?_
  refine ev_istore (lv' := [(0, .int (nI a)), (1, .int (nI b)), (2, .int w), (3, .int (nI b)), (4, .int (nI a))]) dX6_lowest_3 (by decide) rfl ?_
  refine ev_iconst (v := 0) dX6_lowest_5 (by decide) ?_
  refine ev_istore (lv' := [(0, .int (nI a)), (1, .int (nI b)), (2, .int w), (3, .int (nI b)), (4, .int (nI a)), (5, .int 0)]) dX6_lowest_6 (by decide) rfl ?_
  have lp : ∀ (f : Nat) (i : Nat) (x : Nat) (y : Nat), (Nat.gcd x y = Nat.gcd b a) → (0 < x) → (x ≤ 30) → (i + y ≤ 30) → y < f → am_Ev G mX6_lowest (am_R D 0 0) 0 0 (am_q (.long (s_lo a b (decide (w = 0)))) σ) 8 [(0, .int (nI a)), (1, .int (nI b)), (2, .int w), (3, .int (nI x)), (4, .int (nI y)), (5, .int (nI i))] [] σ 0 0 := by
    intro f
    induction f with
    | zero => intro i x y hg hx0 hx hy hf; exact absurd hf (Nat.not_lt_zero _)
    | succ f ih =>
      intro i x y hg hx0 hx hy hf
      refine ev_iload dX6_lowest_8 rfl ?_
      refine ev_bipush (v := 100) dX6_lowest_10 (by decide) ?_
      refine ev_icmp_ge (tgt := 39) dX6_lowest_12 (by decide) (fun c => absurd c (Int32.not_le.mpr (nI_lt (a := i) (b := 100) (by omega) (by decide)))) (fun _ => ?_)
      refine ev_iload dX6_lowest_15 rfl ?_
      refine ev_if_le (tgt := 39) dX6_lowest_17 (by decide) (fun c1 => ?_) (fun c1 => ?_)
      · skip
        have c1n : y ≤ 0 := (nI_leI (a := y) (b := 0) (by omega) (by omega)).mp c1
        have hy0 : y = 0 := by have := (nI_leI (a := y) (b := 0) (by omega) (by decide)).mp c1; omega
        refine ev_iload_n dX6_lowest_39 rfl rfl ?_
        refine ev_if_ne (tgt := 47) dX6_lowest_40 (by decide) (fun _ => ?_) (fun c => absurd c (fun z => by have := (nI_eq (a := x) (b := 0) (by omega) (by decide)).mp z; omega))
        have hdv : a / x ≤ a := Nat.div_le_self _ _
        have hdv2 : b / x ≤ b := Nat.div_le_self _ _
        refine ev_iload_n dX6_lowest_47 rfl rfl ?_
        refine ev_if_ne (tgt := 58) dX6_lowest_48 (by decide) (fun c2 => ?_) (fun c2 => ?_)
        · skip
          refine ev_iload_n dX6_lowest_58 rfl rfl ?_
          refine ev_iload_n dX6_lowest_59 rfl rfl ?_
          refine ev_idiv (v := nI (b / x)) dX6_lowest_60 (fun z => by have := (nI_eq (a := x) (b := 0) (by omega) (by decide)).mp z; omega) (pk_div (by omega) (by omega) (by omega)) ?_
          refine ev_i2l (v := lN (b / x)) dX6_lowest_61 (nI_l (by omega)) ?_
          refine ev_retl dX6_lowest_62 rfl (Nat.zero_le _) (Nat.zero_le _) ?_
          have e : x = Nat.gcd a b := by rw [Nat.gcd_comm a b, ← hg, hy0, Nat.gcd_zero_right]
          subst e
          exact ⟨by rw [decide_eq_false c2]; rfl, rfl⟩
        · skip
          refine ev_iload_n dX6_lowest_51 rfl rfl ?_
          refine ev_iload_n dX6_lowest_52 rfl rfl ?_
          refine ev_idiv (v := nI (a / x)) dX6_lowest_53 (fun z => by have := (nI_eq (a := x) (b := 0) (by omega) (by decide)).mp z; omega) (pk_div (by omega) (by omega) (by omega)) ?_
          refine ev_i2l (v := lN (a / x)) dX6_lowest_54 (nI_l (by omega)) ?_
          refine ev_goto (tgt := 62) dX6_lowest_55 (by decide) ?_
          refine ev_retl dX6_lowest_62 rfl (Nat.zero_le _) (Nat.zero_le _) ?_
          have e : x = Nat.gcd a b := by rw [Nat.gcd_comm a b, ← hg, hy0, Nat.gcd_zero_right]
          subst e
          exact ⟨by rw [decide_eq_true c2]; rfl, rfl⟩
      · skip
        have c1n : ¬ y ≤ 0 := fun zz => c1 ((nI_leI (a := y) (b := 0) (by omega) (by omega)).mpr zz)
        have hy0 : ¬ y = 0 := fun z => c1 (by rw [z]; decide)
        have hmod : x % y < y := Nat.mod_lt _ (by omega)
        have hgn : Nat.gcd y (x % y) = Nat.gcd b a := by rw [← hg, Nat.gcd_comm x y, Nat.gcd_rec y x, Nat.gcd_comm]
        refine ev_iload_n dX6_lowest_20 rfl rfl ?_
        refine ev_iload dX6_lowest_21 rfl ?_
        refine ev_irem (v := nI (x % y)) dX6_lowest_23 (fun z => hy0 ((nI_eq (a := y) (b := 0) (by omega) (by decide)).mp z)) (pk_rem (by omega) (by omega) (by omega)) ?_
        refine ev_istore (lv' := [(0, .int (nI a)), (1, .int (nI b)), (2, .int w), (3, .int (nI x)), (4, .int (nI y)), (5, .int (nI i)), (6, .int (nI (x % y)))]) dX6_lowest_24 (by decide) rfl ?_
        refine ev_iload dX6_lowest_26 rfl ?_
        refine ev_istore_n (lv' := [(0, .int (nI a)), (1, .int (nI b)), (2, .int w), (3, .int (nI y)), (4, .int (nI y)), (5, .int (nI i)), (6, .int (nI (x % y)))]) dX6_lowest_28 rfl (by decide) rfl ?_
        refine ev_iload dX6_lowest_29 rfl ?_
        refine ev_istore (lv' := [(0, .int (nI a)), (1, .int (nI b)), (2, .int w), (3, .int (nI y)), (4, .int (nI (x % y))), (5, .int (nI i)), (6, .int (nI (x % y)))]) dX6_lowest_31 (by decide) rfl ?_
        refine ev_iinc (lv' := [(0, .int (nI a)), (1, .int (nI b)), (2, .int w), (3, .int (nI y)), (4, .int (nI (x % y))), (5, .int (nI (i + 1))), (6, .int (nI (x % y)))]) (v := nI (i + 1)) dX6_lowest_33 rfl (nI_1 _) (by decide) rfl ?_
        refine ev_goto (tgt := 8) dX6_lowest_36 (by decide) ?_
        refine ev_keep (lv' := [(0, .int (nI a)), (1, .int (nI b)), (2, .int w), (3, .int (nI y)), (4, .int (nI (x % y))), (5, .int (nI (i + 1)))]) [0, 1, 2, 3, 4, 5] rfl ?_
        exact ih (i + 1) y (x % y) hgn (by omega) (by omega) (by omega) (by omega)
  exact lp _ 0 b a rfl (by omega) (by omega) (by omega) (Nat.lt_succ_self _)

set_option maxHeartbeats 400000 in
set_option maxRecDepth 100000 in
theorem c_X6_alike (G : am_G) (D : Nat) (A : am_S) (σ : am_M) (hA : wf_A A) (hX : iv_X A σ) (a b w : Int32) : am_Mt G (D + 6) mX6_alike [.ref 32, .int a, .int b, .int w] σ 0 0 (am_qC A (.long (sp_alike A a b w)) σ) := by
  have b7 := wf_np7 hA
  have b8 := wf_nq8 hA
  have b6 := wf_nt6 hA
  have b61 := wf_nt1 hA
  have b160 := wf_tp160 hA
  have brl := wf_rlt hA
  refine am_of moX6_alike (Nat.le_of_ble_eq_true rfl) ?_
  show am_Ev G mX6_alike (am_R (D + 6) 0 0) 0 0 (am_qC A (.long (sp_alike A a b w)) σ) 0 [(0, .ref 32), (1, .int a), (2, .int b), (3, .int w)] [] σ 0 0
  refine ev_iload_n dX6_alike_0 rfl rfl ?_
  refine ev_callS (as := [.int a]) (st := []) dX6_alike_1 mfX6_isTable lk_X6_161 (c_X6_isTable G (D + 5) σ a) rfl rfl (Nat.le_of_ble_eq_true rfl) (am_hR (by omega) (by decide)) ⟨Nat.le_refl _, Nat.le_refl _⟩ ?_
  rintro _ _ (⟨⟨j1, h1, rfl⟩, rfl, rfl⟩ | ⟨h1, rfl, rfl⟩)
  · skip
    refine ev_if_eq (tgt := 26) dX6_alike_4 (by decide) (fun c => absurd c (by decide)) (fun _ => ?_)
    refine ev_iload_n dX6_alike_7 rfl rfl ?_
    refine ev_callS (as := [.int b]) (st := []) dX6_alike_8 mfX6_isTable lk_X6_161 (c_X6_isTable G (D + 5) σ b) rfl rfl (Nat.le_of_ble_eq_true rfl) (am_hR (by omega) (by decide)) ⟨Nat.le_refl _, Nat.le_refl _⟩ ?_
    rintro _ _ (⟨⟨j2, h2, rfl⟩, rfl, rfl⟩ | ⟨h2, rfl, rfl⟩)
    · skip
      refine ev_if_eq (tgt := 26) dX6_alike_11 (by decide) (fun c => absurd c (by decide)) (fun _ => ?_)
      refine ev_iload_n dX6_alike_14 rfl rfl ?_
      refine ev_iload_n dX6_alike_15 rfl rfl ?_
      refine ev_icmp_eq (tgt := 26) dX6_alike_16 (by decide) (fun c3 => ?_) (fun c3 => ?_)
      · skip
        have c3n : j1 = j2 := (nI_eq (a := j1) (b := j2) (by omega) (by omega)).mp c3
        refine ev_ldc2 dX6_alike_26 ct_X6_209 ?_
        refine ev_retl dX6_alike_29 rfl (Nat.zero_le _) (Nat.zero_le _) ?_
        refine ⟨?_, hX, fr_C.rf⟩
        simp [sp_alike, am_inN h1 (by omega), sN_n (show j1 < 2 ^ 31 by omega), am_inN h2 (by omega), sN_n (show j2 < 2 ^ 31 by omega), c3, c3n]
      · skip
        have c3n : ¬ j1 = j2 := fun zz => c3 ((nI_eq (a := j1) (b := j2) (by omega) (by omega)).mpr zz)
        refine ev_iload_n dX6_alike_19 rfl rfl ?_
        refine ev_callS (as := [.int w]) (st := []) dX6_alike_20 mfX6_isZeroOrOne lk_X6_158 (c_X6_isZeroOrOne G (D + 5) σ w) rfl rfl (Nat.le_of_ble_eq_true rfl) (am_hR (by omega) (by decide)) ⟨Nat.le_refl _, Nat.le_refl _⟩ ?_
        rintro _ _ (⟨rfl | rfl, rfl, rfl⟩ | ⟨h4, rfl, rfl⟩)
        · skip
          refine ev_if_ne (tgt := 30) dX6_alike_23 (by decide) (fun _ => ?_) (fun c => absurd c (by decide))
          refine ev_aload_n dX6_alike_30 rfl rfl ?_
          refine ev_callV (as := []) (st := []) dX6_alike_31 mfX6_reckon lk_X6_164 (ly_k hX.ly 32 rfl) (by decide) rfl (c_X6_reckon G (D + 1) A σ hA hX ) rfl rfl (Nat.le_of_ble_eq_true rfl) (am_hR (by omega) (by decide)) ⟨Nat.le_refl _, Nat.le_refl _⟩ ?_
          rintro _ σ5 ⟨rfl, hX5, hF5, hc5, hr5⟩
          refine ev_iconst (v := 1) dX6_alike_34 (by decide) ?_
          refine ev_aload_n dX6_alike_35 rfl rfl ?_
          refine ev_getI (v := nI (s_nq A)) dX6_alike_36 fl_X6_88 (ly_k hX5.ly 32 rfl) (hX5.f13.trans (wf_nq hA)) ?_
          refine ev_ishl (v := 1 <<< ((nI (s_nq A)) &&& 31)) dX6_alike_39 rfl ?_
          refine ev_iconst (v := 1) dX6_alike_40 (by decide) ?_
          refine ev_isub (v := nI (2 ^ s_nq A - 1)) dX6_alike_41 (s_all (by omega)) ?_
          refine ev_istore (lv' := [(0, .ref 32), (1, .int (nI j1)), (2, .int (nI j2)), (3, .int 0), (4, .int (nI (2 ^ s_nq A - 1)))]) dX6_alike_42 (by decide) rfl ?_
          refine ev_iload dX6_alike_44 rfl ?_
          refine ev_aload_n dX6_alike_46 rfl rfl ?_
          refine ev_getR (b := 59) dX6_alike_47 fl_X6_59 (ly_k hX5.ly 32 rfl) (ly_r hX5.ly 9 rfl) ?_
          refine ev_iload_n dX6_alike_50 rfl rfl ?_
          refine ev_iald (v := nI (mk_m (s_rt A (s_se A j1)) (s_nq A))) dX6_alike_51 (ly_k hX5.ly 59 rfl) (am_ixn (by omega) (by decide)) (hr5 j1 (by omega)) ?_
          refine ev_aload_n dX6_alike_52 rfl rfl ?_
          refine ev_getR (b := 59) dX6_alike_53 fl_X6_59 (ly_k hX5.ly 32 rfl) (ly_r hX5.ly 9 rfl) ?_
          refine ev_iload_n dX6_alike_56 rfl rfl ?_
          refine ev_iald (v := nI (mk_m (s_rt A (s_se A j2)) (s_nq A))) dX6_alike_57 (ly_k hX5.ly 59 rfl) (am_ixn (by omega) (by decide)) (hr5 j2 (by omega)) ?_
          refine ev_iand (v := (nI (mk_m (s_rt A (s_se A j1)) (s_nq A))) &&& (nI (mk_m (s_rt A (s_se A j2)) (s_nq A)))) dX6_alike_58 rfl ?_
          refine ev_iconst (v := (-1)) dX6_alike_59 (by decide) ?_
          refine ev_ixor (v := ((nI (mk_m (s_rt A (s_se A j1)) (s_nq A))) &&& (nI (mk_m (s_rt A (s_se A j2)) (s_nq A)))) ^^^ (-1)) dX6_alike_60 rfl ?_
          refine ev_iand (v := nI (s_al A j1 j2 false)) dX6_alike_61 (s_alA b8) ?_
          refine ev_istore (lv' := [(0, .ref 32), (1, .int (nI j1)), (2, .int (nI j2)), (3, .int 0), (4, .int (nI (2 ^ s_nq A - 1))), (5, .int (nI (s_al A j1 j2 false)))]) dX6_alike_62 (by decide) rfl ?_
          refine ev_iload dX6_alike_64 rfl ?_
          refine ev_aload_n dX6_alike_66 rfl rfl ?_
          refine ev_getR (b := 59) dX6_alike_67 fl_X6_59 (ly_k hX5.ly 32 rfl) (ly_r hX5.ly 9 rfl) ?_
          refine ev_iload_n dX6_alike_70 rfl rfl ?_
          refine ev_iald (v := nI (mk_m (s_rt A (s_se A j1)) (s_nq A))) dX6_alike_71 (ly_k hX5.ly 59 rfl) (am_ixn (by omega) (by decide)) (hr5 j1 (by omega)) ?_
          refine ev_aload_n dX6_alike_72 rfl rfl ?_
          refine ev_getR (b := 59) dX6_alike_73 fl_X6_59 (ly_k hX5.ly 32 rfl) (ly_r hX5.ly 9 rfl) ?_
          refine ev_iload_n dX6_alike_76 rfl rfl ?_
          refine ev_iald (v := nI (mk_m (s_rt A (s_se A j2)) (s_nq A))) dX6_alike_77 (ly_k hX5.ly 59 rfl) (am_ixn (by omega) (by decide)) (hr5 j2 (by omega)) ?_
          refine ev_ior (v := (nI (mk_m (s_rt A (s_se A j1)) (s_nq A))) ||| (nI (mk_m (s_rt A (s_se A j2)) (s_nq A)))) dX6_alike_78 rfl ?_
          refine ev_iconst (v := (-1)) dX6_alike_79 (by decide) ?_
          refine ev_ixor (v := ((nI (mk_m (s_rt A (s_se A j1)) (s_nq A))) ||| (nI (mk_m (s_rt A (s_se A j2)) (s_nq A)))) ^^^ (-1)) dX6_alike_80 rfl ?_
          refine ev_iand (v := nI (s_al A j1 j2 true)) dX6_alike_81 (s_alO b8) ?_
          refine ev_istore (lv' := [(0, .ref 32), (1, .int (nI j1)), (2, .int (nI j2)), (3, .int 0), (4, .int (nI (2 ^ s_nq A - 1))), (5, .int (nI (s_al A j1 j2 false))), (6, .int (nI (s_al A j1 j2 true)))]) dX6_alike_82 (by decide) rfl ?_
          have hal : s_al A j1 j2 false < 2 ^ 8 := Nat.lt_of_lt_of_le (mk_lt _ _) (Nat.pow_le_pow_right (by decide) b8)
          have hal2 : s_al A j1 j2 true < 2 ^ 8 := Nat.lt_of_lt_of_le (mk_lt _ _) (Nat.pow_le_pow_right (by decide) b8)
          refine ev_iload dX6_alike_84 rfl ?_
          refine ev_if_ne (tgt := 93) dX6_alike_86 (by decide) (fun c6 => ?_) (fun c6 => ?_)
          · skip
            have c6n : ¬ (s_al A j1 j2 false) = 0 := fun zz => c6 ((nI_eq (a := (s_al A j1 j2 false)) (b := 0) (by omega) (by omega)).mpr zz)
            refine ev_iload dX6_alike_93 rfl ?_
            refine ev_callS (as := [.int (nI (s_al A j1 j2 true))]) (st := []) dX6_alike_95 mfJ6_bitCount_0f7a4 lk_X6_196 (c_bitCount G (D + 5) σ5 (s_al A j1 j2 true) (by omega) _ rfl) rfl rfl (Nat.le_of_ble_eq_true rfl) (am_hR (by omega) (by decide)) ⟨Nat.le_refl _, Nat.le_refl _⟩ ?_
            rintro _ _ ⟨rfl, rfl⟩
            have hon6 := s_on12 (s_al A j1 j2 true)
            refine ev_iload dX6_alike_98 rfl ?_
            refine ev_callS (as := [.int (nI (s_al A j1 j2 false))]) (st := [.int (nI (s_on (s_al A j1 j2 true)))]) dX6_alike_100 mfJ6_bitCount_0f7a4 lk_X6_196 (c_bitCount G (D + 5) σ5 (s_al A j1 j2 false) (by omega) _ rfl) rfl rfl (Nat.le_of_ble_eq_true rfl) (am_hR (by omega) (by decide)) ⟨Nat.le_refl _, Nat.le_refl _⟩ ?_
            rintro _ _ ⟨rfl, rfl⟩
            have hon6 := s_on12 (s_al A j1 j2 false)
            refine ev_iload_n dX6_alike_103 rfl rfl ?_
            have hpos : ¬ s_on (s_al A j1 j2 false) = 0 := fun z => c6n (s_on0 (by omega) z)
            refine ev_callS (as := [.int (nI (s_on (s_al A j1 j2 true))), .int (nI (s_on (s_al A j1 j2 false))), .int 0]) (st := []) dX6_alike_104 mfX6_lowest lk_X6_211 (c_X6_lowest G (D + 5) σ5 (s_on (s_al A j1 j2 true)) (s_on (s_al A j1 j2 false)) 0 (by omega) (by omega) (by omega)) rfl rfl (Nat.le_of_ble_eq_true rfl) (am_hR (by omega) (by decide)) ⟨Nat.le_refl _, Nat.le_refl _⟩ ?_
            rintro _ _ ⟨rfl, rfl⟩
            refine ev_retl dX6_alike_107 rfl (Nat.zero_le _) (Nat.zero_le _) ?_
            refine ⟨?_, hX5, (fr_C.tr fr_C.rf hF5)⟩
            simp [sp_alike, am_inN h1 (by omega), sN_n (show j1 < 2 ^ 31 by omega), am_inN h2 (by omega), sN_n (show j2 < 2 ^ 31 by omega), c3, c3n, c6, c6n]
          · skip
            have c6n : (s_al A j1 j2 false) = 0 := (nI_eq (a := (s_al A j1 j2 false)) (b := 0) (by omega) (by omega)).mp c6
            refine ev_ldc2 dX6_alike_89 ct_X6_209 ?_
            refine ev_retl dX6_alike_92 rfl (Nat.zero_le _) (Nat.zero_le _) ?_
            refine ⟨?_, hX5, (fr_C.tr fr_C.rf hF5)⟩
            simp [sp_alike, am_inN h1 (by omega), sN_n (show j1 < 2 ^ 31 by omega), am_inN h2 (by omega), sN_n (show j2 < 2 ^ 31 by omega), c3, c3n, c6, c6n]
        · skip
          refine ev_if_ne (tgt := 30) dX6_alike_23 (by decide) (fun _ => ?_) (fun c => absurd c (by decide))
          refine ev_aload_n dX6_alike_30 rfl rfl ?_
          refine ev_callV (as := []) (st := []) dX6_alike_31 mfX6_reckon lk_X6_164 (ly_k hX.ly 32 rfl) (by decide) rfl (c_X6_reckon G (D + 1) A σ hA hX ) rfl rfl (Nat.le_of_ble_eq_true rfl) (am_hR (by omega) (by decide)) ⟨Nat.le_refl _, Nat.le_refl _⟩ ?_
          rintro _ σ7 ⟨rfl, hX7, hF7, hc7, hr7⟩
          refine ev_iconst (v := 1) dX6_alike_34 (by decide) ?_
          refine ev_aload_n dX6_alike_35 rfl rfl ?_
          refine ev_getI (v := nI (s_nq A)) dX6_alike_36 fl_X6_88 (ly_k hX7.ly 32 rfl) (hX7.f13.trans (wf_nq hA)) ?_
          refine ev_ishl (v := 1 <<< ((nI (s_nq A)) &&& 31)) dX6_alike_39 rfl ?_
          refine ev_iconst (v := 1) dX6_alike_40 (by decide) ?_
          refine ev_isub (v := nI (2 ^ s_nq A - 1)) dX6_alike_41 (s_all (by omega)) ?_
          refine ev_istore (lv' := [(0, .ref 32), (1, .int (nI j1)), (2, .int (nI j2)), (3, .int 1), (4, .int (nI (2 ^ s_nq A - 1)))]) dX6_alike_42 (by decide) rfl ?_
          refine ev_iload dX6_alike_44 rfl ?_
          refine ev_aload_n dX6_alike_46 rfl rfl ?_
          refine ev_getR (b := 59) dX6_alike_47 fl_X6_59 (ly_k hX7.ly 32 rfl) (ly_r hX7.ly 9 rfl) ?_
          refine ev_iload_n dX6_alike_50 rfl rfl ?_
          refine ev_iald (v := nI (mk_m (s_rt A (s_se A j1)) (s_nq A))) dX6_alike_51 (ly_k hX7.ly 59 rfl) (am_ixn (by omega) (by decide)) (hr7 j1 (by omega)) ?_
          refine ev_aload_n dX6_alike_52 rfl rfl ?_
          refine ev_getR (b := 59) dX6_alike_53 fl_X6_59 (ly_k hX7.ly 32 rfl) (ly_r hX7.ly 9 rfl) ?_
          refine ev_iload_n dX6_alike_56 rfl rfl ?_
          refine ev_iald (v := nI (mk_m (s_rt A (s_se A j2)) (s_nq A))) dX6_alike_57 (ly_k hX7.ly 59 rfl) (am_ixn (by omega) (by decide)) (hr7 j2 (by omega)) ?_
          refine ev_iand (v := (nI (mk_m (s_rt A (s_se A j1)) (s_nq A))) &&& (nI (mk_m (s_rt A (s_se A j2)) (s_nq A)))) dX6_alike_58 rfl ?_
          refine ev_iconst (v := (-1)) dX6_alike_59 (by decide) ?_
          refine ev_ixor (v := ((nI (mk_m (s_rt A (s_se A j1)) (s_nq A))) &&& (nI (mk_m (s_rt A (s_se A j2)) (s_nq A)))) ^^^ (-1)) dX6_alike_60 rfl ?_
          refine ev_iand (v := nI (s_al A j1 j2 false)) dX6_alike_61 (s_alA b8) ?_
          refine ev_istore (lv' := [(0, .ref 32), (1, .int (nI j1)), (2, .int (nI j2)), (3, .int 1), (4, .int (nI (2 ^ s_nq A - 1))), (5, .int (nI (s_al A j1 j2 false)))]) dX6_alike_62 (by decide) rfl ?_
          refine ev_iload dX6_alike_64 rfl ?_
          refine ev_aload_n dX6_alike_66 rfl rfl ?_
          refine ev_getR (b := 59) dX6_alike_67 fl_X6_59 (ly_k hX7.ly 32 rfl) (ly_r hX7.ly 9 rfl) ?_
          refine ev_iload_n dX6_alike_70 rfl rfl ?_
          refine ev_iald (v := nI (mk_m (s_rt A (s_se A j1)) (s_nq A))) dX6_alike_71 (ly_k hX7.ly 59 rfl) (am_ixn (by omega) (by decide)) (hr7 j1 (by omega)) ?_
          refine ev_aload_n dX6_alike_72 rfl rfl ?_
          refine ev_getR (b := 59) dX6_alike_73 fl_X6_59 (ly_k hX7.ly 32 rfl) (ly_r hX7.ly 9 rfl) ?_
          refine ev_iload_n dX6_alike_76 rfl rfl ?_
          refine ev_iald (v := nI (mk_m (s_rt A (s_se A j2)) (s_nq A))) dX6_alike_77 (ly_k hX7.ly 59 rfl) (am_ixn (by omega) (by decide)) (hr7 j2 (by omega)) ?_
          refine ev_ior (v := (nI (mk_m (s_rt A (s_se A j1)) (s_nq A))) ||| (nI (mk_m (s_rt A (s_se A j2)) (s_nq A)))) dX6_alike_78 rfl ?_
          refine ev_iconst (v := (-1)) dX6_alike_79 (by decide) ?_
          refine ev_ixor (v := ((nI (mk_m (s_rt A (s_se A j1)) (s_nq A))) ||| (nI (mk_m (s_rt A (s_se A j2)) (s_nq A)))) ^^^ (-1)) dX6_alike_80 rfl ?_
          refine ev_iand (v := nI (s_al A j1 j2 true)) dX6_alike_81 (s_alO b8) ?_
          refine ev_istore (lv' := [(0, .ref 32), (1, .int (nI j1)), (2, .int (nI j2)), (3, .int 1), (4, .int (nI (2 ^ s_nq A - 1))), (5, .int (nI (s_al A j1 j2 false))), (6, .int (nI (s_al A j1 j2 true)))]) dX6_alike_82 (by decide) rfl ?_
          have hal : s_al A j1 j2 false < 2 ^ 8 := Nat.lt_of_lt_of_le (mk_lt _ _) (Nat.pow_le_pow_right (by decide) b8)
          have hal2 : s_al A j1 j2 true < 2 ^ 8 := Nat.lt_of_lt_of_le (mk_lt _ _) (Nat.pow_le_pow_right (by decide) b8)
          refine ev_iload dX6_alike_84 rfl ?_
          refine ev_if_ne (tgt := 93) dX6_alike_86 (by decide) (fun c8 => ?_) (fun c8 => ?_)
          · skip
            have c8n : ¬ (s_al A j1 j2 false) = 0 := fun zz => c8 ((nI_eq (a := (s_al A j1 j2 false)) (b := 0) (by omega) (by omega)).mpr zz)
            refine ev_iload dX6_alike_93 rfl ?_
            refine ev_callS (as := [.int (nI (s_al A j1 j2 true))]) (st := []) dX6_alike_95 mfJ6_bitCount_0f7a4 lk_X6_196 (c_bitCount G (D + 5) σ7 (s_al A j1 j2 true) (by omega) _ rfl) rfl rfl (Nat.le_of_ble_eq_true rfl) (am_hR (by omega) (by decide)) ⟨Nat.le_refl _, Nat.le_refl _⟩ ?_
            rintro _ _ ⟨rfl, rfl⟩
            have hon8 := s_on12 (s_al A j1 j2 true)
            refine ev_iload dX6_alike_98 rfl ?_
            refine ev_callS (as := [.int (nI (s_al A j1 j2 false))]) (st := [.int (nI (s_on (s_al A j1 j2 true)))]) dX6_alike_100 mfJ6_bitCount_0f7a4 lk_X6_196 (c_bitCount G (D + 5) σ7 (s_al A j1 j2 false) (by omega) _ rfl) rfl rfl (Nat.le_of_ble_eq_true rfl) (am_hR (by omega) (by decide)) ⟨Nat.le_refl _, Nat.le_refl _⟩ ?_
            rintro _ _ ⟨rfl, rfl⟩
            have hon8 := s_on12 (s_al A j1 j2 false)
            refine ev_iload_n dX6_alike_103 rfl rfl ?_
            have hpos : ¬ s_on (s_al A j1 j2 false) = 0 := fun z => c8n (s_on0 (by omega) z)
            refine ev_callS (as := [.int (nI (s_on (s_al A j1 j2 true))), .int (nI (s_on (s_al A j1 j2 false))), .int 1]) (st := []) dX6_alike_104 mfX6_lowest lk_X6_211 (c_X6_lowest G (D + 5) σ7 (s_on (s_al A j1 j2 true)) (s_on (s_al A j1 j2 false)) 1 (by omega) (by omega) (by omega)) rfl rfl (Nat.le_of_ble_eq_true rfl) (am_hR (by omega) (by decide)) ⟨Nat.le_refl _, Nat.le_refl _⟩ ?_
            rintro _ _ ⟨rfl, rfl⟩
            refine ev_retl dX6_alike_107 rfl (Nat.zero_le _) (Nat.zero_le _) ?_
            refine ⟨?_, hX7, (fr_C.tr fr_C.rf hF7)⟩
            simp [sp_alike, am_inN h1 (by omega), sN_n (show j1 < 2 ^ 31 by omega), am_inN h2 (by omega), sN_n (show j2 < 2 ^ 31 by omega), c3, c3n, c8, c8n]
          · skip
            have c8n : (s_al A j1 j2 false) = 0 := (nI_eq (a := (s_al A j1 j2 false)) (b := 0) (by omega) (by omega)).mp c8
            refine ev_ldc2 dX6_alike_89 ct_X6_209 ?_
            refine ev_retl dX6_alike_92 rfl (Nat.zero_le _) (Nat.zero_le _) ?_
            refine ⟨?_, hX7, (fr_C.tr fr_C.rf hF7)⟩
            simp [sp_alike, am_inN h1 (by omega), sN_n (show j1 < 2 ^ 31 by omega), am_inN h2 (by omega), sN_n (show j2 < 2 ^ 31 by omega), c3, c3n, c8, c8n]
        · skip
          refine ev_if_ne (tgt := 30) dX6_alike_23 (by decide) (fun c => absurd (by decide) c) (fun _ => ?_)
          refine ev_ldc2 dX6_alike_26 ct_X6_209 ?_
          refine ev_retl dX6_alike_29 rfl (Nat.zero_le _) (Nat.zero_le _) ?_
          refine ⟨?_, hX, fr_C.rf⟩
          simp [sp_alike, am_inN h1 (by omega), sN_n (show j1 < 2 ^ 31 by omega), am_inN h2 (by omega), sN_n (show j2 < 2 ^ 31 by omega), (show ¬ w = 0 from fun z => h4 (Or.inl z)), (show ¬ w = 1 from fun z => h4 (Or.inr z)), c3, c3n]
    · skip
      refine ev_if_eq (tgt := 26) dX6_alike_11 (by decide) (fun _ => ?_) (fun c => absurd (by decide) c)
      refine ev_ldc2 dX6_alike_26 ct_X6_209 ?_
      refine ev_retl dX6_alike_29 rfl (Nat.zero_le _) (Nat.zero_le _) ?_
      refine ⟨?_, hX, fr_C.rf⟩
      simp [sp_alike, am_inN h1 (by omega), sN_n (show j1 < 2 ^ 31 by omega), am_inF (by omega) h2]
  · skip
    refine ev_if_eq (tgt := 26) dX6_alike_4 (by decide) (fun _ => ?_) (fun c => absurd (by decide) c)
    refine ev_ldc2 dX6_alike_26 ct_X6_209 ?_
    refine ev_retl dX6_alike_29 rfl (Nat.zero_le _) (Nat.zero_le _) ?_
    refine ⟨?_, hX, fr_C.rf⟩
    simp [sp_alike, am_inF (by omega) h1]

theorem s_biN {o : Option Nat} (h : ∀ b, o = some b → b < 2 ^ 31) : s_bi o = -1 ↔ o = none := by
  cases o with
  | none => exact ⟨fun _ => rfl, fun _ => rfl⟩
  | some b => exact ⟨fun z => absurd z (s_bi_n (h b rfl)), fun z => by cases z⟩
theorem s_hjlt {A : am_S} {T : Nat} {c : Int32} : ∀ {n b : Nat}, (s_hi A T c n).1 = some b → b < n := by
  intro n
  induction n with
  | zero => intro b h; cases h
  | succ n ih =>
    intro b h
    by_cases h1 : A 69 n = -1 ∧ s_pr A n ≤ c
    · by_cases h2 : (s_hi A T c n).2.1 < s_wi A T n (nI T) ∨ ((s_hi A T c n).1 ≠ none ∧ s_wi A T n (nI T) = (s_hi A T c n).2.1 ∧ s_pr A n < (s_hi A T c n).2.2)
      · rw [s_hiY h1 h2] at h; cases h; omega
      · rw [s_hiN h2] at h; have := ih h; omega
    · rw [s_hiF h1] at h; have := ih h; omega
theorem s_hiB {A : am_S} {T n : Nat} {c : Int32} (hn : n < 2 ^ 31) : s_bi (s_hi A T c n).1 = -1 ↔ (s_hi A T c n).1 = none := s_biN (fun b h => by have := s_hjlt h; omega)
set_option maxHeartbeats 400000 in
set_option maxRecDepth 100000 in
theorem c_X6_hire (G : am_G) (D : Nat) (A : am_S) (σ : am_M) (hA : wf_A A) (hX : iv_X A σ) (t coin w : Int32) : am_Mt G (D + 6) mX6_hire [.ref 32, .int t, .int coin, .int w] σ 0 0 (am_qC A (.int (sp_hire A t coin w)) σ) := by
  have b7 := wf_np7 hA
  have b8 := wf_nq8 hA
  have b6 := wf_nt6 hA
  have b61 := wf_nt1 hA
  have b160 := wf_tp160 hA
  have brl := wf_rlt hA
  refine am_of moX6_hire (Nat.le_of_ble_eq_true rfl) ?_
  show am_Ev G mX6_hire (am_R (D + 6) 0 0) 0 0 (am_qC A (.int (sp_hire A t coin w)) σ) 0 [(0, .ref 32), (1, .int t), (2, .int coin), (3, .int w)] [] σ 0 0
  refine ev_iload_n dX6_hire_0 rfl rfl ?_
  refine ev_callS (as := [.int t]) (st := []) dX6_hire_1 mfX6_isTable lk_X6_161 (c_X6_isTable G (D + 5) σ t) rfl rfl (Nat.le_of_ble_eq_true rfl) (am_hR (by omega) (by decide)) ⟨Nat.le_refl _, Nat.le_refl _⟩ ?_
  rintro _ _ (⟨⟨j1, h1, rfl⟩, rfl, rfl⟩ | ⟨h1, rfl, rfl⟩)
  · skip
    refine ev_if_ne (tgt := 10) dX6_hire_4 (by decide) (fun _ => ?_) (fun c => absurd c (by decide))
    refine ev_iload_n dX6_hire_10 rfl rfl ?_
    refine ev_if_lt (tgt := 28) dX6_hire_11 (by decide) (fun c2 => ?_) (fun c2 => ?_)
    · skip
      refine ev_bipush (v := (-7)) dX6_hire_28 (by decide) ?_
      refine ev_reti dX6_hire_30 rfl (Nat.zero_le _) (Nat.zero_le _) ?_
      refine ⟨?_, hX, fr_C.rf⟩
      simp [sp_hire, am_inN h1 (by omega), sN_n (show j1 < 2 ^ 31 by omega), (am_inF (x := coin) (n := 1000) (by decide) (am_rgn (by decide) c2))]
    · skip
      refine ev_iload_n dX6_hire_14 rfl rfl ?_
      refine ev_sipush (v := 999) dX6_hire_15 (by decide) ?_
      refine ev_icmp_gt (tgt := 28) dX6_hire_18 (by decide) (fun c3 => ?_) (fun c3 => ?_)
      · skip
        refine ev_bipush (v := (-7)) dX6_hire_28 (by decide) ?_
        refine ev_reti dX6_hire_30 rfl (Nat.zero_le _) (Nat.zero_le _) ?_
        refine ⟨?_, hX, fr_C.rf⟩
        simp [sp_hire, am_inN h1 (by omega), sN_n (show j1 < 2 ^ 31 by omega), (am_inF (x := coin) (n := 1000) (by decide) (am_rgm3 (c := 999) (by decide) (by decide) (Int32.not_le.mpr c3)))]
      · skip
        obtain ⟨C, hC, rfl⟩ : am_rg coin 1000 := am_rg3 (c := 999) (by decide) c2 (Int32.not_lt.mp c3)
        refine ev_iload_n dX6_hire_21 rfl rfl ?_
        refine ev_callS (as := [.int w]) (st := []) dX6_hire_22 mfX6_isZeroOrOne lk_X6_158 (c_X6_isZeroOrOne G (D + 5) σ w) rfl rfl (Nat.le_of_ble_eq_true rfl) (am_hR (by omega) (by decide)) ⟨Nat.le_refl _, Nat.le_refl _⟩ ?_
        rintro _ _ (⟨rfl | rfl, rfl, rfl⟩ | ⟨h4, rfl, rfl⟩)
        · skip
          refine ev_if_ne (tgt := 31) dX6_hire_25 (by decide) (fun _ => ?_) (fun c => absurd c (by decide))
          refine ev_aload_n dX6_hire_31 rfl rfl ?_
          refine ev_callV (as := []) (st := []) dX6_hire_32 mfX6_reckon lk_X6_164 (ly_k hX.ly 32 rfl) (by decide) rfl (c_X6_reckon G (D + 1) A σ hA hX ) rfl rfl (Nat.le_of_ble_eq_true rfl) (am_hR (by omega) (by decide)) ⟨Nat.le_refl _, Nat.le_refl _⟩ ?_
          rintro _ σ5 ⟨rfl, hX5, hF5, hc5, hr5⟩
          refine ev_aload_n dX6_hire_35 rfl rfl ?_
          refine ev_iload_n dX6_hire_36 rfl rfl ?_
          refine ev_callV (as := [.int (nI j1)]) (st := []) dX6_hire_37 mfX6_seatedAt lk_X6_167 (ly_k hX5.ly 32 rfl) (by decide) rfl (c_X6_seatedAt G (D + 4) A σ5 hA hX5 j1) rfl rfl (Nat.le_of_ble_eq_true rfl) (am_hR (by omega) (by decide)) ⟨Nat.le_refl _, Nat.le_refl _⟩ ?_
          rintro _ _ ⟨rfl, rfl⟩
          refine ev_istore (lv' := [(0, .ref 32), (1, .int (nI j1)), (2, .int (nI C)), (3, .int 0), (4, .int (nI (mk_m (s_se A j1) (s_np A))))]) dX6_hire_40 (by decide) rfl ?_
          refine ev_iconst (v := (-1)) dX6_hire_42 (by decide) ?_
          refine ev_istore (lv' := [(0, .ref 32), (1, .int (nI j1)), (2, .int (nI C)), (3, .int 0), (4, .int (nI (mk_m (s_se A j1) (s_np A)))), (5, .int (-1))]) dX6_hire_43 (by decide) rfl ?_
          refine ev_iconst (v := (-1)) dX6_hire_45 (by decide) ?_
          refine ev_istore (lv' := [(0, .ref 32), (1, .int (nI j1)), (2, .int (nI C)), (3, .int 0), (4, .int (nI (mk_m (s_se A j1) (s_np A)))), (5, .int (-1)), (6, .int (-1))]) dX6_hire_46 (by decide) rfl ?_
          refine ev_aload_n dX6_hire_48 rfl rfl ?_
          refine ev_iload_n dX6_hire_49 rfl rfl ?_
          refine ev_callV (as := [.int (nI j1)]) (st := []) dX6_hire_50 mfX6_scoreNow lk_X6_177 (ly_k hX5.ly 32 rfl) (by decide) rfl (c_X6_scoreNow G (D + 4) A σ5 hA hX5 j1 (by omega) hc5 hr5) rfl rfl (Nat.le_of_ble_eq_true rfl) (am_hR (by omega) (by decide)) ⟨Nat.le_refl _, Nat.le_refl _⟩ ?_
          rintro _ _ ⟨rfl, rfl⟩
          refine ev_istore (lv' := [(0, .ref 32), (1, .int (nI j1)), (2, .int (nI C)), (3, .int 0), (4, .int (nI (mk_m (s_se A j1) (s_np A)))), (5, .int (-1)), (6, .int (-1)), (7, .int (s_now A j1))]) dX6_hire_53 (by decide) rfl ?_
          refine ev_iconst (v := 0) dX6_hire_55 (by decide) ?_
          refine ev_istore (lv' := [(0, .ref 32), (1, .int (nI j1)), (2, .int (nI C)), (3, .int 0), (4, .int (nI (mk_m (s_se A j1) (s_np A)))), (5, .int (-1)), (6, .int (-1)), (7, .int (s_now A j1)), (8, .int 0)]) dX6_hire_56 (by decide) rfl ?_
          have lp : ∀ (f : Nat) (p : Nat) (fd : Int32) (co : Int32) (hi : Int32) (τ : am_M), (p ≤ s_np A) → (fd = s_bi (s_hi A j1 (nI C) p).1) → (co = (s_hi A j1 (nI C) p).2.2) → (hi = (s_hi A j1 (nI C) p).2.1) → (iv_X A τ) → (fr_C σ τ) → (cb_X A τ) → (cr_X A τ) → s_np A - p < f → am_Ev G mX6_hire (am_R (D + 6) 0 0) 0 0 (am_qC A (.int (sp_hire A (nI j1) (nI C) 0)) σ) 58 [(0, .ref 32), (1, .int (nI j1)), (2, .int (nI C)), (3, .int 0), (4, .int (nI (mk_m (s_se A j1) (s_np A)))), (5, .int fd), (6, .int co), (7, .int hi), (8, .int (nI p))] [] τ 0 0 := by
            intro f
            induction f with
            | zero => intro p fd co hi τ hp hfd hco hhi hXt hFt hct hrt hf; exact absurd hf (Nat.not_lt_zero _)
            | succ f ih =>
              intro p fd co hi τ hp hfd hco hhi hXt hFt hct hrt hf
              refine ev_iload dX6_hire_58 rfl ?_
              refine ev_aload_n dX6_hire_60 rfl rfl ?_
              refine ev_getI (v := nI (s_np A)) dX6_hire_61 fl_X6_85 (ly_k hXt.ly 32 rfl) (hXt.f12.trans (wf_np hA)) ?_
              refine ev_icmp_ge (tgt := 182) dX6_hire_64 (by decide) (fun c6 => ?_) (fun c6 => ?_)
              · skip
                have c6n : (s_np A) ≤ p := (nI_leI (a := (s_np A)) (b := p) (by omega) (by omega)).mp c6
                refine ev_iload_n dX6_hire_182 rfl rfl ?_
                refine ev_if_ne (tgt := 191) dX6_hire_183 (by decide) (fun c => absurd (by decide) c) (fun _ => ?_)
                refine ev_iload dX6_hire_186 rfl ?_
                refine ev_goto (tgt := 193) dX6_hire_188 (by decide) ?_
                refine ev_reti dX6_hire_193 rfl (Nat.zero_le _) (Nat.zero_le _) ?_
                have e : p = s_np A := by omega
                subst e
                refine ⟨?_, hXt, hFt⟩
                simp [sp_hire, am_inN h1 (by omega), sN_n (show j1 < 2 ^ 31 by omega), am_inN hC (by omega), sN_n (show C < 2 ^ 31 by omega), ← hfd, ← hco]
              · skip
                have c6n : ¬ (s_np A) ≤ p := fun zz => c6 ((nI_leI (a := (s_np A)) (b := p) (by omega) (by omega)).mpr zz)
                refine ev_aload_n dX6_hire_67 rfl rfl ?_
                refine ev_iload dX6_hire_68 rfl ?_
                have hp7 : p < s_np A := by omega
                obtain ⟨g7, hg7⟩ := hXt.ge hp7
                have h97 := hXt.g9 hp7 hg7
                refine ev_callV (as := [.int (nI p)]) (st := []) dX6_hire_70 mfX6_personAt lk_X6_128 (ly_k hXt.ly 32 rfl) (by decide) rfl (c_X6_personAtN G (D + 5) A τ hA hXt p g7 hp7 hg7) rfl rfl (Nat.le_of_ble_eq_true rfl) (am_hR (by omega) (by decide)) ⟨Nat.le_refl _, Nat.le_refl _⟩ ?_
                rintro _ _ ⟨rfl, rfl⟩
                refine ev_astore (lv' := [(0, .ref 32), (1, .int (nI j1)), (2, .int (nI C)), (3, .int 0), (4, .int (nI (mk_m (s_se A j1) (s_np A)))), (5, .int fd), (6, .int co), (7, .int hi), (8, .int (nI p)), (9, .ref g7)]) dX6_hire_73 (by decide) rfl ?_
                refine ev_aload dX6_hire_75 rfl ?_
                refine ev_ifnullR dX6_hire_77 ?_
                refine ev_aload dX6_hire_80 rfl ?_
                refine ev_getI (v := A 69 p) dX6_hire_82 fl_X6_143 (hXt.gk hp7 hg7) (hXt.g4 hp7 hg7) ?_
                refine ev_iconst (v := (-1)) dX6_hire_85 (by decide) ?_
                refine ev_icmp_eq (tgt := 92) dX6_hire_86 (by decide) (fun c8 => ?_) (fun c8 => ?_)
                · skip
                  refine ev_aload_n dX6_hire_92 rfl rfl ?_
                  refine ev_iload dX6_hire_93 rfl ?_
                  refine ev_aload dX6_hire_95 rfl ?_
                  obtain ⟨x9, hx9⟩ := hXt.te brl
                  refine ev_callV (as := [.int (nI p), .ref g7]) (st := []) dX6_hire_97 mfX6_costOf lk_X6_201 (ly_k hXt.ly 32 rfl) (by decide) rfl (c_X6_costOf G (D + 2) A τ hA hXt x9 hx9 p g7 hp7 hg7) rfl rfl (Nat.le_of_ble_eq_true rfl) (am_hR (by omega) (by decide)) ⟨Nat.le_refl _, Nat.le_refl _⟩ ?_
                  rintro _ σ9 ⟨rfl, hX9, hF9, hE9⟩
                  have hg7_9 : σ9.2.2 33 p = some g7 := (congrFun (congrFun hF9.2.1 33) _).trans hg7
                  refine ev_istore (lv' := [(0, .ref 32), (1, .int (nI j1)), (2, .int (nI C)), (3, .int 0), (4, .int (nI (mk_m (s_se A j1) (s_np A)))), (5, .int fd), (6, .int co), (7, .int hi), (8, .int (nI p)), (9, .ref g7), (10, .int (s_pr A p))]) dX6_hire_100 (by decide) rfl ?_
                  refine ev_iload dX6_hire_102 rfl ?_
                  refine ev_iload_n dX6_hire_104 rfl rfl ?_
                  refine ev_icmp_le (tgt := 111) dX6_hire_105 (by decide) (fun c10 => ?_) (fun c10 => ?_)
                  · skip
                    refine ev_aload_n dX6_hire_111 rfl rfl ?_
                    refine ev_iload_n dX6_hire_112 rfl rfl ?_
                    refine ev_iload dX6_hire_113 rfl ?_
                    refine ev_iconst (v := 1) dX6_hire_115 (by decide) ?_
                    refine ev_iload dX6_hire_116 rfl ?_
                    refine ev_ishl (v := 1 <<< ((nI p) &&& 31)) dX6_hire_118 rfl ?_
                    refine ev_ior (v := nI (mk_m (s_se A j1) (s_np A) ||| 2 ^ p)) dX6_hire_119 (mk_o1 (by omega)) ?_
                    refine ev_callV (as := [.int (nI j1), .int (nI (mk_m (s_se A j1) (s_np A) ||| 2 ^ p))]) (st := []) dX6_hire_120 mfX6_scoreIf lk_X6_193 (ly_k hX9.ly 32 rfl) (by decide) rfl (by have hh := c_X6_scoreIf G (D + 3) A σ9 hA hX9 j1 (by omega) (mk_m (s_se A j1) (s_np A) ||| 2 ^ p) (Nat.or_lt_two_pow (mk_lt _ _) (Nat.pow_lt_pow_right (by decide) (by omega))) (cb_X.cg hct (fun a h1 h2 => hE9 a h1 (by omega))); rw [s_ifJ (by omega)] at hh; exact hh) rfl rfl (Nat.le_of_ble_eq_true rfl) (am_hR (by omega) (by decide)) ⟨Nat.le_refl _, Nat.le_refl _⟩ ?_
                    rintro _ _ ⟨rfl, rfl⟩
                    refine ev_istore (lv' := [(0, .ref 32), (1, .int (nI j1)), (2, .int (nI C)), (3, .int 0), (4, .int (nI (mk_m (s_se A j1) (s_np A)))), (5, .int fd), (6, .int co), (7, .int hi), (8, .int (nI p)), (9, .ref g7), (10, .int (s_pr A p)), (11, .int (s_wi A j1 p (nI j1)))]) dX6_hire_123 (by decide) rfl ?_
                    refine ev_iload dX6_hire_125 rfl ?_
                    refine ev_iconst (v := (-1)) dX6_hire_127 (by decide) ?_
                    refine ev_icmp_eq (tgt := 149) dX6_hire_128 (by decide) (fun c11 => ?_) (fun c11 => ?_)
                    · skip
                      refine ev_iconst (v := 0) dX6_hire_149 (by decide) ?_
                      refine ev_istore (lv' := [(0, .ref 32), (1, .int (nI j1)), (2, .int (nI C)), (3, .int 0), (4, .int (nI (mk_m (s_se A j1) (s_np A)))), (5, .int fd), (6, .int co), (7, .int hi), (8, .int (nI p)), (9, .ref g7), (10, .int (s_pr A p)), (11, .int (s_wi A j1 p (nI j1))), (12, .int 0)]) dX6_hire_150 (by decide) rfl ?_
                      refine ev_iload dX6_hire_152 rfl ?_
                      refine ev_iload dX6_hire_154 rfl ?_
                      refine ev_icmp_gt (tgt := 164) dX6_hire_156 (by decide) (fun c12 => ?_) (fun c12 => ?_)
                      · skip
                        refine ev_iload dX6_hire_164 rfl ?_
                        refine ev_istore (lv' := [(0, .ref 32), (1, .int (nI j1)), (2, .int (nI C)), (3, .int 0), (4, .int (nI (mk_m (s_se A j1) (s_np A)))), (5, .int fd), (6, .int co), (7, .int (s_wi A j1 p (nI j1))), (8, .int (nI p)), (9, .ref g7), (10, .int (s_pr A p)), (11, .int (s_wi A j1 p (nI j1))), (12, .int 0)]) dX6_hire_166 (by decide) rfl ?_
                        refine ev_iload dX6_hire_168 rfl ?_
                        refine ev_istore (lv' := [(0, .ref 32), (1, .int (nI j1)), (2, .int (nI C)), (3, .int 0), (4, .int (nI (mk_m (s_se A j1) (s_np A)))), (5, .int (nI p)), (6, .int co), (7, .int (s_wi A j1 p (nI j1))), (8, .int (nI p)), (9, .ref g7), (10, .int (s_pr A p)), (11, .int (s_wi A j1 p (nI j1))), (12, .int 0)]) dX6_hire_170 (by decide) rfl ?_
                        refine ev_iload dX6_hire_172 rfl ?_
                        refine ev_istore (lv' := [(0, .ref 32), (1, .int (nI j1)), (2, .int (nI C)), (3, .int 0), (4, .int (nI (mk_m (s_se A j1) (s_np A)))), (5, .int (nI p)), (6, .int (s_pr A p)), (7, .int (s_wi A j1 p (nI j1))), (8, .int (nI p)), (9, .ref g7), (10, .int (s_pr A p)), (11, .int (s_wi A j1 p (nI j1))), (12, .int 0)]) dX6_hire_174 (by decide) rfl ?_
                        refine ev_iinc (lv' := [(0, .ref 32), (1, .int (nI j1)), (2, .int (nI C)), (3, .int 0), (4, .int (nI (mk_m (s_se A j1) (s_np A)))), (5, .int (nI p)), (6, .int (s_pr A p)), (7, .int (s_wi A j1 p (nI j1))), (8, .int (nI (p + 1))), (9, .ref g7), (10, .int (s_pr A p)), (11, .int (s_wi A j1 p (nI j1))), (12, .int 0)]) (v := nI (p + 1)) dX6_hire_176 rfl (nI_1 _) (by decide) rfl ?_
                        refine ev_goto (tgt := 58) dX6_hire_179 (by decide) ?_
                        refine ev_keep (lv' := [(0, .ref 32), (1, .int (nI j1)), (2, .int (nI C)), (3, .int 0), (4, .int (nI (mk_m (s_se A j1) (s_np A)))), (5, .int (nI p)), (6, .int (s_pr A p)), (7, .int (s_wi A j1 p (nI j1))), (8, .int (nI (p + 1)))]) [0, 1, 2, 3, 4, 5, 6, 7, 8] rfl ?_
                        exact ih (p + 1) (nI p) (s_pr A p) (s_wi A j1 p (nI j1)) σ9 (by omega) (by rw [s_hiY ⟨c8, (c10)⟩ (Or.inl (by rw [← hhi]; exact c12))]; rfl) (by rw [s_hiY ⟨c8, (c10)⟩ (Or.inl (by rw [← hhi]; exact c12))]) (by rw [s_hiY ⟨c8, (c10)⟩ (Or.inl (by rw [← hhi]; exact c12))]) hX9 (fr_C.tr hFt hF9) (cb_X.cg hct (fun a h1 h2 => hE9 a h1 (by omega))) (cr_X.cg hrt (hE9 59 (by decide) (by decide))) (by omega)
                      · skip
                        refine ev_iload dX6_hire_159 rfl ?_
                        refine ev_if_eq (tgt := 176) dX6_hire_161 (by decide) (fun _ => ?_) (fun c => absurd (by decide) c)
                        refine ev_iinc (lv' := [(0, .ref 32), (1, .int (nI j1)), (2, .int (nI C)), (3, .int 0), (4, .int (nI (mk_m (s_se A j1) (s_np A)))), (5, .int fd), (6, .int co), (7, .int hi), (8, .int (nI (p + 1))), (9, .ref g7), (10, .int (s_pr A p)), (11, .int (s_wi A j1 p (nI j1))), (12, .int 0)]) (v := nI (p + 1)) dX6_hire_176 rfl (nI_1 _) (by decide) rfl ?_
                        refine ev_goto (tgt := 58) dX6_hire_179 (by decide) ?_
                        refine ev_keep (lv' := [(0, .ref 32), (1, .int (nI j1)), (2, .int (nI C)), (3, .int 0), (4, .int (nI (mk_m (s_se A j1) (s_np A)))), (5, .int fd), (6, .int co), (7, .int hi), (8, .int (nI (p + 1)))]) [0, 1, 2, 3, 4, 5, 6, 7, 8] rfl ?_
                        exact ih (p + 1) fd co hi σ9 (by omega) (by rw [s_hiN (fun z => z.elim (fun y => absurd y (by rw [← hhi]; exact c12)) (fun z => z.1 ((s_hiB (by omega)).mp (by rw [← hfd]; exact c11))))]; exact hfd) (by rw [s_hiN (fun z => z.elim (fun y => absurd y (by rw [← hhi]; exact c12)) (fun z => z.1 ((s_hiB (by omega)).mp (by rw [← hfd]; exact c11))))]; exact hco) (by rw [s_hiN (fun z => z.elim (fun y => absurd y (by rw [← hhi]; exact c12)) (fun z => z.1 ((s_hiB (by omega)).mp (by rw [← hfd]; exact c11))))]; exact hhi) hX9 (fr_C.tr hFt hF9) (cb_X.cg hct (fun a h1 h2 => hE9 a h1 (by omega))) (cr_X.cg hrt (hE9 59 (by decide) (by decide))) (by omega)
                    · skip
                      refine ev_iload dX6_hire_131 rfl ?_
                      refine ev_iload dX6_hire_133 rfl ?_
                      refine ev_icmp_ne (tgt := 149) dX6_hire_135 (by decide) (fun c13 => ?_) (fun c13 => ?_)
                      · skip
                        refine ev_iconst (v := 0) dX6_hire_149 (by decide) ?_
                        refine ev_istore (lv' := [(0, .ref 32), (1, .int (nI j1)), (2, .int (nI C)), (3, .int 0), (4, .int (nI (mk_m (s_se A j1) (s_np A)))), (5, .int fd), (6, .int co), (7, .int hi), (8, .int (nI p)), (9, .ref g7), (10, .int (s_pr A p)), (11, .int (s_wi A j1 p (nI j1))), (12, .int 0)]) dX6_hire_150 (by decide) rfl ?_
                        refine ev_iload dX6_hire_152 rfl ?_
                        refine ev_iload dX6_hire_154 rfl ?_
                        refine ev_icmp_gt (tgt := 164) dX6_hire_156 (by decide) (fun c14 => ?_) (fun c14 => ?_)
                        · skip
                          refine ev_iload dX6_hire_164 rfl ?_
                          refine ev_istore (lv' := [(0, .ref 32), (1, .int (nI j1)), (2, .int (nI C)), (3, .int 0), (4, .int (nI (mk_m (s_se A j1) (s_np A)))), (5, .int fd), (6, .int co), (7, .int (s_wi A j1 p (nI j1))), (8, .int (nI p)), (9, .ref g7), (10, .int (s_pr A p)), (11, .int (s_wi A j1 p (nI j1))), (12, .int 0)]) dX6_hire_166 (by decide) rfl ?_
                          refine ev_iload dX6_hire_168 rfl ?_
                          refine ev_istore (lv' := [(0, .ref 32), (1, .int (nI j1)), (2, .int (nI C)), (3, .int 0), (4, .int (nI (mk_m (s_se A j1) (s_np A)))), (5, .int (nI p)), (6, .int co), (7, .int (s_wi A j1 p (nI j1))), (8, .int (nI p)), (9, .ref g7), (10, .int (s_pr A p)), (11, .int (s_wi A j1 p (nI j1))), (12, .int 0)]) dX6_hire_170 (by decide) rfl ?_
                          refine ev_iload dX6_hire_172 rfl ?_
                          refine ev_istore (lv' := [(0, .ref 32), (1, .int (nI j1)), (2, .int (nI C)), (3, .int 0), (4, .int (nI (mk_m (s_se A j1) (s_np A)))), (5, .int (nI p)), (6, .int (s_pr A p)), (7, .int (s_wi A j1 p (nI j1))), (8, .int (nI p)), (9, .ref g7), (10, .int (s_pr A p)), (11, .int (s_wi A j1 p (nI j1))), (12, .int 0)]) dX6_hire_174 (by decide) rfl ?_
                          refine ev_iinc (lv' := [(0, .ref 32), (1, .int (nI j1)), (2, .int (nI C)), (3, .int 0), (4, .int (nI (mk_m (s_se A j1) (s_np A)))), (5, .int (nI p)), (6, .int (s_pr A p)), (7, .int (s_wi A j1 p (nI j1))), (8, .int (nI (p + 1))), (9, .ref g7), (10, .int (s_pr A p)), (11, .int (s_wi A j1 p (nI j1))), (12, .int 0)]) (v := nI (p + 1)) dX6_hire_176 rfl (nI_1 _) (by decide) rfl ?_
                          refine ev_goto (tgt := 58) dX6_hire_179 (by decide) ?_
                          refine ev_keep (lv' := [(0, .ref 32), (1, .int (nI j1)), (2, .int (nI C)), (3, .int 0), (4, .int (nI (mk_m (s_se A j1) (s_np A)))), (5, .int (nI p)), (6, .int (s_pr A p)), (7, .int (s_wi A j1 p (nI j1))), (8, .int (nI (p + 1)))]) [0, 1, 2, 3, 4, 5, 6, 7, 8] rfl ?_
                          exact ih (p + 1) (nI p) (s_pr A p) (s_wi A j1 p (nI j1)) σ9 (by omega) (by rw [s_hiY ⟨c8, (c10)⟩ (Or.inl (by rw [← hhi]; exact c14))]; rfl) (by rw [s_hiY ⟨c8, (c10)⟩ (Or.inl (by rw [← hhi]; exact c14))]) (by rw [s_hiY ⟨c8, (c10)⟩ (Or.inl (by rw [← hhi]; exact c14))]) hX9 (fr_C.tr hFt hF9) (cb_X.cg hct (fun a h1 h2 => hE9 a h1 (by omega))) (cr_X.cg hrt (hE9 59 (by decide) (by decide))) (by omega)
                        · skip
                          refine ev_iload dX6_hire_159 rfl ?_
                          refine ev_if_eq (tgt := 176) dX6_hire_161 (by decide) (fun _ => ?_) (fun c => absurd (by decide) c)
                          refine ev_iinc (lv' := [(0, .ref 32), (1, .int (nI j1)), (2, .int (nI C)), (3, .int 0), (4, .int (nI (mk_m (s_se A j1) (s_np A)))), (5, .int fd), (6, .int co), (7, .int hi), (8, .int (nI (p + 1))), (9, .ref g7), (10, .int (s_pr A p)), (11, .int (s_wi A j1 p (nI j1))), (12, .int 0)]) (v := nI (p + 1)) dX6_hire_176 rfl (nI_1 _) (by decide) rfl ?_
                          refine ev_goto (tgt := 58) dX6_hire_179 (by decide) ?_
                          refine ev_keep (lv' := [(0, .ref 32), (1, .int (nI j1)), (2, .int (nI C)), (3, .int 0), (4, .int (nI (mk_m (s_se A j1) (s_np A)))), (5, .int fd), (6, .int co), (7, .int hi), (8, .int (nI (p + 1)))]) [0, 1, 2, 3, 4, 5, 6, 7, 8] rfl ?_
                          exact ih (p + 1) fd co hi σ9 (by omega) (by rw [s_hiN (fun z => z.elim (fun y => absurd y (by rw [← hhi]; exact c14)) (fun z => c13 (z.2.1.trans hhi.symm)))]; exact hfd) (by rw [s_hiN (fun z => z.elim (fun y => absurd y (by rw [← hhi]; exact c14)) (fun z => c13 (z.2.1.trans hhi.symm)))]; exact hco) (by rw [s_hiN (fun z => z.elim (fun y => absurd y (by rw [← hhi]; exact c14)) (fun z => c13 (z.2.1.trans hhi.symm)))]; exact hhi) hX9 (fr_C.tr hFt hF9) (cb_X.cg hct (fun a h1 h2 => hE9 a h1 (by omega))) (cr_X.cg hrt (hE9 59 (by decide) (by decide))) (by omega)
                      · skip
                        refine ev_iload dX6_hire_138 rfl ?_
                        refine ev_iload dX6_hire_140 rfl ?_
                        refine ev_icmp_ge (tgt := 149) dX6_hire_142 (by decide) (fun c15 => ?_) (fun c15 => ?_)
                        · skip
                          refine ev_iconst (v := 0) dX6_hire_149 (by decide) ?_
                          refine ev_istore (lv' := [(0, .ref 32), (1, .int (nI j1)), (2, .int (nI C)), (3, .int 0), (4, .int (nI (mk_m (s_se A j1) (s_np A)))), (5, .int fd), (6, .int co), (7, .int hi), (8, .int (nI p)), (9, .ref g7), (10, .int (s_pr A p)), (11, .int (s_wi A j1 p (nI j1))), (12, .int 0)]) dX6_hire_150 (by decide) rfl ?_
                          refine ev_iload dX6_hire_152 rfl ?_
                          refine ev_iload dX6_hire_154 rfl ?_
                          refine ev_icmp_gt (tgt := 164) dX6_hire_156 (by decide) (fun c16 => ?_) (fun c16 => ?_)
                          · skip
                            refine ev_iload dX6_hire_164 rfl ?_
                            refine ev_istore (lv' := [(0, .ref 32), (1, .int (nI j1)), (2, .int (nI C)), (3, .int 0), (4, .int (nI (mk_m (s_se A j1) (s_np A)))), (5, .int fd), (6, .int co), (7, .int (s_wi A j1 p (nI j1))), (8, .int (nI p)), (9, .ref g7), (10, .int (s_pr A p)), (11, .int (s_wi A j1 p (nI j1))), (12, .int 0)]) dX6_hire_166 (by decide) rfl ?_
                            refine ev_iload dX6_hire_168 rfl ?_
                            refine ev_istore (lv' := [(0, .ref 32), (1, .int (nI j1)), (2, .int (nI C)), (3, .int 0), (4, .int (nI (mk_m (s_se A j1) (s_np A)))), (5, .int (nI p)), (6, .int co), (7, .int (s_wi A j1 p (nI j1))), (8, .int (nI p)), (9, .ref g7), (10, .int (s_pr A p)), (11, .int (s_wi A j1 p (nI j1))), (12, .int 0)]) dX6_hire_170 (by decide) rfl ?_
                            refine ev_iload dX6_hire_172 rfl ?_
                            refine ev_istore (lv' := [(0, .ref 32), (1, .int (nI j1)), (2, .int (nI C)), (3, .int 0), (4, .int (nI (mk_m (s_se A j1) (s_np A)))), (5, .int (nI p)), (6, .int (s_pr A p)), (7, .int (s_wi A j1 p (nI j1))), (8, .int (nI p)), (9, .ref g7), (10, .int (s_pr A p)), (11, .int (s_wi A j1 p (nI j1))), (12, .int 0)]) dX6_hire_174 (by decide) rfl ?_
                            refine ev_iinc (lv' := [(0, .ref 32), (1, .int (nI j1)), (2, .int (nI C)), (3, .int 0), (4, .int (nI (mk_m (s_se A j1) (s_np A)))), (5, .int (nI p)), (6, .int (s_pr A p)), (7, .int (s_wi A j1 p (nI j1))), (8, .int (nI (p + 1))), (9, .ref g7), (10, .int (s_pr A p)), (11, .int (s_wi A j1 p (nI j1))), (12, .int 0)]) (v := nI (p + 1)) dX6_hire_176 rfl (nI_1 _) (by decide) rfl ?_
                            refine ev_goto (tgt := 58) dX6_hire_179 (by decide) ?_
                            refine ev_keep (lv' := [(0, .ref 32), (1, .int (nI j1)), (2, .int (nI C)), (3, .int 0), (4, .int (nI (mk_m (s_se A j1) (s_np A)))), (5, .int (nI p)), (6, .int (s_pr A p)), (7, .int (s_wi A j1 p (nI j1))), (8, .int (nI (p + 1)))]) [0, 1, 2, 3, 4, 5, 6, 7, 8] rfl ?_
                            exact ih (p + 1) (nI p) (s_pr A p) (s_wi A j1 p (nI j1)) σ9 (by omega) (by rw [s_hiY ⟨c8, (c10)⟩ (Or.inl (by rw [← hhi]; exact c16))]; rfl) (by rw [s_hiY ⟨c8, (c10)⟩ (Or.inl (by rw [← hhi]; exact c16))]) (by rw [s_hiY ⟨c8, (c10)⟩ (Or.inl (by rw [← hhi]; exact c16))]) hX9 (fr_C.tr hFt hF9) (cb_X.cg hct (fun a h1 h2 => hE9 a h1 (by omega))) (cr_X.cg hrt (hE9 59 (by decide) (by decide))) (by omega)
                          · skip
                            refine ev_iload dX6_hire_159 rfl ?_
                            refine ev_if_eq (tgt := 176) dX6_hire_161 (by decide) (fun _ => ?_) (fun c => absurd (by decide) c)
                            refine ev_iinc (lv' := [(0, .ref 32), (1, .int (nI j1)), (2, .int (nI C)), (3, .int 0), (4, .int (nI (mk_m (s_se A j1) (s_np A)))), (5, .int fd), (6, .int co), (7, .int hi), (8, .int (nI (p + 1))), (9, .ref g7), (10, .int (s_pr A p)), (11, .int (s_wi A j1 p (nI j1))), (12, .int 0)]) (v := nI (p + 1)) dX6_hire_176 rfl (nI_1 _) (by decide) rfl ?_
                            refine ev_goto (tgt := 58) dX6_hire_179 (by decide) ?_
                            refine ev_keep (lv' := [(0, .ref 32), (1, .int (nI j1)), (2, .int (nI C)), (3, .int 0), (4, .int (nI (mk_m (s_se A j1) (s_np A)))), (5, .int fd), (6, .int co), (7, .int hi), (8, .int (nI (p + 1)))]) [0, 1, 2, 3, 4, 5, 6, 7, 8] rfl ?_
                            exact ih (p + 1) fd co hi σ9 (by omega) (by rw [s_hiN (fun z => z.elim (fun y => absurd y (by rw [← hhi]; exact c16)) (fun z => absurd z.2.2 (Int32.not_lt.mpr (by rw [← hco]; exact c15))))]; exact hfd) (by rw [s_hiN (fun z => z.elim (fun y => absurd y (by rw [← hhi]; exact c16)) (fun z => absurd z.2.2 (Int32.not_lt.mpr (by rw [← hco]; exact c15))))]; exact hco) (by rw [s_hiN (fun z => z.elim (fun y => absurd y (by rw [← hhi]; exact c16)) (fun z => absurd z.2.2 (Int32.not_lt.mpr (by rw [← hco]; exact c15))))]; exact hhi) hX9 (fr_C.tr hFt hF9) (cb_X.cg hct (fun a h1 h2 => hE9 a h1 (by omega))) (cr_X.cg hrt (hE9 59 (by decide) (by decide))) (by omega)
                        · skip
                          refine ev_iconst (v := 1) dX6_hire_145 (by decide) ?_
                          refine ev_goto (tgt := 150) dX6_hire_146 (by decide) ?_
                          refine ev_istore (lv' := [(0, .ref 32), (1, .int (nI j1)), (2, .int (nI C)), (3, .int 0), (4, .int (nI (mk_m (s_se A j1) (s_np A)))), (5, .int fd), (6, .int co), (7, .int hi), (8, .int (nI p)), (9, .ref g7), (10, .int (s_pr A p)), (11, .int (s_wi A j1 p (nI j1))), (12, .int 1)]) dX6_hire_150 (by decide) rfl ?_
                          refine ev_iload dX6_hire_152 rfl ?_
                          refine ev_iload dX6_hire_154 rfl ?_
                          refine ev_icmp_gt (tgt := 164) dX6_hire_156 (by decide) (fun c17 => ?_) (fun c17 => ?_)
                          · skip
                            refine ev_iload dX6_hire_164 rfl ?_
                            refine ev_istore (lv' := [(0, .ref 32), (1, .int (nI j1)), (2, .int (nI C)), (3, .int 0), (4, .int (nI (mk_m (s_se A j1) (s_np A)))), (5, .int fd), (6, .int co), (7, .int (s_wi A j1 p (nI j1))), (8, .int (nI p)), (9, .ref g7), (10, .int (s_pr A p)), (11, .int (s_wi A j1 p (nI j1))), (12, .int 1)]) dX6_hire_166 (by decide) rfl ?_
                            refine ev_iload dX6_hire_168 rfl ?_
                            refine ev_istore (lv' := [(0, .ref 32), (1, .int (nI j1)), (2, .int (nI C)), (3, .int 0), (4, .int (nI (mk_m (s_se A j1) (s_np A)))), (5, .int (nI p)), (6, .int co), (7, .int (s_wi A j1 p (nI j1))), (8, .int (nI p)), (9, .ref g7), (10, .int (s_pr A p)), (11, .int (s_wi A j1 p (nI j1))), (12, .int 1)]) dX6_hire_170 (by decide) rfl ?_
                            refine ev_iload dX6_hire_172 rfl ?_
                            refine ev_istore (lv' := [(0, .ref 32), (1, .int (nI j1)), (2, .int (nI C)), (3, .int 0), (4, .int (nI (mk_m (s_se A j1) (s_np A)))), (5, .int (nI p)), (6, .int (s_pr A p)), (7, .int (s_wi A j1 p (nI j1))), (8, .int (nI p)), (9, .ref g7), (10, .int (s_pr A p)), (11, .int (s_wi A j1 p (nI j1))), (12, .int 1)]) dX6_hire_174 (by decide) rfl ?_
                            refine ev_iinc (lv' := [(0, .ref 32), (1, .int (nI j1)), (2, .int (nI C)), (3, .int 0), (4, .int (nI (mk_m (s_se A j1) (s_np A)))), (5, .int (nI p)), (6, .int (s_pr A p)), (7, .int (s_wi A j1 p (nI j1))), (8, .int (nI (p + 1))), (9, .ref g7), (10, .int (s_pr A p)), (11, .int (s_wi A j1 p (nI j1))), (12, .int 1)]) (v := nI (p + 1)) dX6_hire_176 rfl (nI_1 _) (by decide) rfl ?_
                            refine ev_goto (tgt := 58) dX6_hire_179 (by decide) ?_
                            refine ev_keep (lv' := [(0, .ref 32), (1, .int (nI j1)), (2, .int (nI C)), (3, .int 0), (4, .int (nI (mk_m (s_se A j1) (s_np A)))), (5, .int (nI p)), (6, .int (s_pr A p)), (7, .int (s_wi A j1 p (nI j1))), (8, .int (nI (p + 1)))]) [0, 1, 2, 3, 4, 5, 6, 7, 8] rfl ?_
                            exact ih (p + 1) (nI p) (s_pr A p) (s_wi A j1 p (nI j1)) σ9 (by omega) (by rw [s_hiY ⟨c8, (c10)⟩ (Or.inl (by rw [← hhi]; exact c17))]; rfl) (by rw [s_hiY ⟨c8, (c10)⟩ (Or.inl (by rw [← hhi]; exact c17))]) (by rw [s_hiY ⟨c8, (c10)⟩ (Or.inl (by rw [← hhi]; exact c17))]) hX9 (fr_C.tr hFt hF9) (cb_X.cg hct (fun a h1 h2 => hE9 a h1 (by omega))) (cr_X.cg hrt (hE9 59 (by decide) (by decide))) (by omega)
                          · skip
                            refine ev_iload dX6_hire_159 rfl ?_
                            refine ev_if_eq (tgt := 176) dX6_hire_161 (by decide) (fun c => absurd c (by decide)) (fun _ => ?_)
                            refine ev_iload dX6_hire_164 rfl ?_
                            refine ev_istore (lv' := [(0, .ref 32), (1, .int (nI j1)), (2, .int (nI C)), (3, .int 0), (4, .int (nI (mk_m (s_se A j1) (s_np A)))), (5, .int fd), (6, .int co), (7, .int (s_wi A j1 p (nI j1))), (8, .int (nI p)), (9, .ref g7), (10, .int (s_pr A p)), (11, .int (s_wi A j1 p (nI j1))), (12, .int 1)]) dX6_hire_166 (by decide) rfl ?_
                            refine ev_iload dX6_hire_168 rfl ?_
                            refine ev_istore (lv' := [(0, .ref 32), (1, .int (nI j1)), (2, .int (nI C)), (3, .int 0), (4, .int (nI (mk_m (s_se A j1) (s_np A)))), (5, .int (nI p)), (6, .int co), (7, .int (s_wi A j1 p (nI j1))), (8, .int (nI p)), (9, .ref g7), (10, .int (s_pr A p)), (11, .int (s_wi A j1 p (nI j1))), (12, .int 1)]) dX6_hire_170 (by decide) rfl ?_
                            refine ev_iload dX6_hire_172 rfl ?_
                            refine ev_istore (lv' := [(0, .ref 32), (1, .int (nI j1)), (2, .int (nI C)), (3, .int 0), (4, .int (nI (mk_m (s_se A j1) (s_np A)))), (5, .int (nI p)), (6, .int (s_pr A p)), (7, .int (s_wi A j1 p (nI j1))), (8, .int (nI p)), (9, .ref g7), (10, .int (s_pr A p)), (11, .int (s_wi A j1 p (nI j1))), (12, .int 1)]) dX6_hire_174 (by decide) rfl ?_
                            refine ev_iinc (lv' := [(0, .ref 32), (1, .int (nI j1)), (2, .int (nI C)), (3, .int 0), (4, .int (nI (mk_m (s_se A j1) (s_np A)))), (5, .int (nI p)), (6, .int (s_pr A p)), (7, .int (s_wi A j1 p (nI j1))), (8, .int (nI (p + 1))), (9, .ref g7), (10, .int (s_pr A p)), (11, .int (s_wi A j1 p (nI j1))), (12, .int 1)]) (v := nI (p + 1)) dX6_hire_176 rfl (nI_1 _) (by decide) rfl ?_
                            refine ev_goto (tgt := 58) dX6_hire_179 (by decide) ?_
                            refine ev_keep (lv' := [(0, .ref 32), (1, .int (nI j1)), (2, .int (nI C)), (3, .int 0), (4, .int (nI (mk_m (s_se A j1) (s_np A)))), (5, .int (nI p)), (6, .int (s_pr A p)), (7, .int (s_wi A j1 p (nI j1))), (8, .int (nI (p + 1)))]) [0, 1, 2, 3, 4, 5, 6, 7, 8] rfl ?_
                            exact ih (p + 1) (nI p) (s_pr A p) (s_wi A j1 p (nI j1)) σ9 (by omega) (by rw [s_hiY ⟨c8, (c10)⟩ (Or.inr ⟨fun z => c11 (by rw [hfd]; exact (s_hiB (by omega)).mpr z), c13.trans hhi, by rw [← hco]; exact Int32.not_le.mp c15⟩)]; rfl) (by rw [s_hiY ⟨c8, (c10)⟩ (Or.inr ⟨fun z => c11 (by rw [hfd]; exact (s_hiB (by omega)).mpr z), c13.trans hhi, by rw [← hco]; exact Int32.not_le.mp c15⟩)]) (by rw [s_hiY ⟨c8, (c10)⟩ (Or.inr ⟨fun z => c11 (by rw [hfd]; exact (s_hiB (by omega)).mpr z), c13.trans hhi, by rw [← hco]; exact Int32.not_le.mp c15⟩)]) hX9 (fr_C.tr hFt hF9) (cb_X.cg hct (fun a h1 h2 => hE9 a h1 (by omega))) (cr_X.cg hrt (hE9 59 (by decide) (by decide))) (by omega)
                  · skip
                    refine ev_goto (tgt := 176) dX6_hire_108 (by decide) ?_
                    refine ev_iinc (lv' := [(0, .ref 32), (1, .int (nI j1)), (2, .int (nI C)), (3, .int 0), (4, .int (nI (mk_m (s_se A j1) (s_np A)))), (5, .int fd), (6, .int co), (7, .int hi), (8, .int (nI (p + 1))), (9, .ref g7), (10, .int (s_pr A p))]) (v := nI (p + 1)) dX6_hire_176 rfl (nI_1 _) (by decide) rfl ?_
                    refine ev_goto (tgt := 58) dX6_hire_179 (by decide) ?_
                    refine ev_keep (lv' := [(0, .ref 32), (1, .int (nI j1)), (2, .int (nI C)), (3, .int 0), (4, .int (nI (mk_m (s_se A j1) (s_np A)))), (5, .int fd), (6, .int co), (7, .int hi), (8, .int (nI (p + 1)))]) [0, 1, 2, 3, 4, 5, 6, 7, 8] rfl ?_
                    exact ih (p + 1) fd co hi σ9 (by omega) (by rw [s_hiF (fun z => absurd z.2 c10)]; exact hfd) (by rw [s_hiF (fun z => absurd z.2 c10)]; exact hco) (by rw [s_hiF (fun z => absurd z.2 c10)]; exact hhi) hX9 (fr_C.tr hFt hF9) (cb_X.cg hct (fun a h1 h2 => hE9 a h1 (by omega))) (cr_X.cg hrt (hE9 59 (by decide) (by decide))) (by omega)
                · skip
                  refine ev_goto (tgt := 176) dX6_hire_89 (by decide) ?_
                  refine ev_iinc (lv' := [(0, .ref 32), (1, .int (nI j1)), (2, .int (nI C)), (3, .int 0), (4, .int (nI (mk_m (s_se A j1) (s_np A)))), (5, .int fd), (6, .int co), (7, .int hi), (8, .int (nI (p + 1))), (9, .ref g7)]) (v := nI (p + 1)) dX6_hire_176 rfl (nI_1 _) (by decide) rfl ?_
                  refine ev_goto (tgt := 58) dX6_hire_179 (by decide) ?_
                  refine ev_keep (lv' := [(0, .ref 32), (1, .int (nI j1)), (2, .int (nI C)), (3, .int 0), (4, .int (nI (mk_m (s_se A j1) (s_np A)))), (5, .int fd), (6, .int co), (7, .int hi), (8, .int (nI (p + 1)))]) [0, 1, 2, 3, 4, 5, 6, 7, 8] rfl ?_
                  exact ih (p + 1) fd co hi τ (by omega) (by rw [s_hiF (fun z => c8 z.1)]; exact hfd) (by rw [s_hiF (fun z => c8 z.1)]; exact hco) (by rw [s_hiF (fun z => c8 z.1)]; exact hhi) hXt hFt hct hrt (by omega)
          exact lp _ 0 (-1) (-1) (s_now A j1) σ5 (Nat.zero_le _) rfl rfl rfl hX5 (fr_C.tr fr_C.rf hF5) hc5 hr5 (Nat.lt_succ_self _)
        · skip
          refine ev_if_ne (tgt := 31) dX6_hire_25 (by decide) (fun _ => ?_) (fun c => absurd c (by decide))
          refine ev_aload_n dX6_hire_31 rfl rfl ?_
          refine ev_callV (as := []) (st := []) dX6_hire_32 mfX6_reckon lk_X6_164 (ly_k hX.ly 32 rfl) (by decide) rfl (c_X6_reckon G (D + 1) A σ hA hX ) rfl rfl (Nat.le_of_ble_eq_true rfl) (am_hR (by omega) (by decide)) ⟨Nat.le_refl _, Nat.le_refl _⟩ ?_
          rintro _ σ18 ⟨rfl, hX18, hF18, hc18, hr18⟩
          refine ev_aload_n dX6_hire_35 rfl rfl ?_
          refine ev_iload_n dX6_hire_36 rfl rfl ?_
          refine ev_callV (as := [.int (nI j1)]) (st := []) dX6_hire_37 mfX6_seatedAt lk_X6_167 (ly_k hX18.ly 32 rfl) (by decide) rfl (c_X6_seatedAt G (D + 4) A σ18 hA hX18 j1) rfl rfl (Nat.le_of_ble_eq_true rfl) (am_hR (by omega) (by decide)) ⟨Nat.le_refl _, Nat.le_refl _⟩ ?_
          rintro _ _ ⟨rfl, rfl⟩
          refine ev_istore (lv' := [(0, .ref 32), (1, .int (nI j1)), (2, .int (nI C)), (3, .int 1), (4, .int (nI (mk_m (s_se A j1) (s_np A))))]) dX6_hire_40 (by decide) rfl ?_
          refine ev_iconst (v := (-1)) dX6_hire_42 (by decide) ?_
          refine ev_istore (lv' := [(0, .ref 32), (1, .int (nI j1)), (2, .int (nI C)), (3, .int 1), (4, .int (nI (mk_m (s_se A j1) (s_np A)))), (5, .int (-1))]) dX6_hire_43 (by decide) rfl ?_
          refine ev_iconst (v := (-1)) dX6_hire_45 (by decide) ?_
          refine ev_istore (lv' := [(0, .ref 32), (1, .int (nI j1)), (2, .int (nI C)), (3, .int 1), (4, .int (nI (mk_m (s_se A j1) (s_np A)))), (5, .int (-1)), (6, .int (-1))]) dX6_hire_46 (by decide) rfl ?_
          refine ev_aload_n dX6_hire_48 rfl rfl ?_
          refine ev_iload_n dX6_hire_49 rfl rfl ?_
          refine ev_callV (as := [.int (nI j1)]) (st := []) dX6_hire_50 mfX6_scoreNow lk_X6_177 (ly_k hX18.ly 32 rfl) (by decide) rfl (c_X6_scoreNow G (D + 4) A σ18 hA hX18 j1 (by omega) hc18 hr18) rfl rfl (Nat.le_of_ble_eq_true rfl) (am_hR (by omega) (by decide)) ⟨Nat.le_refl _, Nat.le_refl _⟩ ?_
          rintro _ _ ⟨rfl, rfl⟩
          refine ev_istore (lv' := [(0, .ref 32), (1, .int (nI j1)), (2, .int (nI C)), (3, .int 1), (4, .int (nI (mk_m (s_se A j1) (s_np A)))), (5, .int (-1)), (6, .int (-1)), (7, .int (s_now A j1))]) dX6_hire_53 (by decide) rfl ?_
          refine ev_iconst (v := 0) dX6_hire_55 (by decide) ?_
          refine ev_istore (lv' := [(0, .ref 32), (1, .int (nI j1)), (2, .int (nI C)), (3, .int 1), (4, .int (nI (mk_m (s_se A j1) (s_np A)))), (5, .int (-1)), (6, .int (-1)), (7, .int (s_now A j1)), (8, .int 0)]) dX6_hire_56 (by decide) rfl ?_
          have lp : ∀ (f : Nat) (p : Nat) (fd : Int32) (co : Int32) (hi : Int32) (τ : am_M), (p ≤ s_np A) → (fd = s_bi (s_hi A j1 (nI C) p).1) → (co = (s_hi A j1 (nI C) p).2.2) → (hi = (s_hi A j1 (nI C) p).2.1) → (iv_X A τ) → (fr_C σ τ) → (cb_X A τ) → (cr_X A τ) → s_np A - p < f → am_Ev G mX6_hire (am_R (D + 6) 0 0) 0 0 (am_qC A (.int (sp_hire A (nI j1) (nI C) 1)) σ) 58 [(0, .ref 32), (1, .int (nI j1)), (2, .int (nI C)), (3, .int 1), (4, .int (nI (mk_m (s_se A j1) (s_np A)))), (5, .int fd), (6, .int co), (7, .int hi), (8, .int (nI p))] [] τ 0 0 := by
            intro f
            induction f with
            | zero => intro p fd co hi τ hp hfd hco hhi hXt hFt hct hrt hf; exact absurd hf (Nat.not_lt_zero _)
            | succ f ih =>
              intro p fd co hi τ hp hfd hco hhi hXt hFt hct hrt hf
              refine ev_iload dX6_hire_58 rfl ?_
              refine ev_aload_n dX6_hire_60 rfl rfl ?_
              refine ev_getI (v := nI (s_np A)) dX6_hire_61 fl_X6_85 (ly_k hXt.ly 32 rfl) (hXt.f12.trans (wf_np hA)) ?_
              refine ev_icmp_ge (tgt := 182) dX6_hire_64 (by decide) (fun c19 => ?_) (fun c19 => ?_)
              · skip
                have c19n : (s_np A) ≤ p := (nI_leI (a := (s_np A)) (b := p) (by omega) (by omega)).mp c19
                refine ev_iload_n dX6_hire_182 rfl rfl ?_
                refine ev_if_ne (tgt := 191) dX6_hire_183 (by decide) (fun _ => ?_) (fun c => absurd c (by decide))
                refine ev_iload dX6_hire_191 rfl ?_
                refine ev_reti dX6_hire_193 rfl (Nat.zero_le _) (Nat.zero_le _) ?_
                have e : p = s_np A := by omega
                subst e
                refine ⟨?_, hXt, hFt⟩
                simp [sp_hire, am_inN h1 (by omega), sN_n (show j1 < 2 ^ 31 by omega), am_inN hC (by omega), sN_n (show C < 2 ^ 31 by omega), ← hfd, ← hco]
              · skip
                have c19n : ¬ (s_np A) ≤ p := fun zz => c19 ((nI_leI (a := (s_np A)) (b := p) (by omega) (by omega)).mpr zz)
                refine ev_aload_n dX6_hire_67 rfl rfl ?_
                refine ev_iload dX6_hire_68 rfl ?_
                have hp20 : p < s_np A := by omega
                obtain ⟨g20, hg20⟩ := hXt.ge hp20
                have h920 := hXt.g9 hp20 hg20
                refine ev_callV (as := [.int (nI p)]) (st := []) dX6_hire_70 mfX6_personAt lk_X6_128 (ly_k hXt.ly 32 rfl) (by decide) rfl (c_X6_personAtN G (D + 5) A τ hA hXt p g20 hp20 hg20) rfl rfl (Nat.le_of_ble_eq_true rfl) (am_hR (by omega) (by decide)) ⟨Nat.le_refl _, Nat.le_refl _⟩ ?_
                rintro _ _ ⟨rfl, rfl⟩
                refine ev_astore (lv' := [(0, .ref 32), (1, .int (nI j1)), (2, .int (nI C)), (3, .int 1), (4, .int (nI (mk_m (s_se A j1) (s_np A)))), (5, .int fd), (6, .int co), (7, .int hi), (8, .int (nI p)), (9, .ref g20)]) dX6_hire_73 (by decide) rfl ?_
                refine ev_aload dX6_hire_75 rfl ?_
                refine ev_ifnullR dX6_hire_77 ?_
                refine ev_aload dX6_hire_80 rfl ?_
                refine ev_getI (v := A 69 p) dX6_hire_82 fl_X6_143 (hXt.gk hp20 hg20) (hXt.g4 hp20 hg20) ?_
                refine ev_iconst (v := (-1)) dX6_hire_85 (by decide) ?_
                refine ev_icmp_eq (tgt := 92) dX6_hire_86 (by decide) (fun c21 => ?_) (fun c21 => ?_)
                · skip
                  refine ev_aload_n dX6_hire_92 rfl rfl ?_
                  refine ev_iload dX6_hire_93 rfl ?_
                  refine ev_aload dX6_hire_95 rfl ?_
                  obtain ⟨x22, hx22⟩ := hXt.te brl
                  refine ev_callV (as := [.int (nI p), .ref g20]) (st := []) dX6_hire_97 mfX6_costOf lk_X6_201 (ly_k hXt.ly 32 rfl) (by decide) rfl (c_X6_costOf G (D + 2) A τ hA hXt x22 hx22 p g20 hp20 hg20) rfl rfl (Nat.le_of_ble_eq_true rfl) (am_hR (by omega) (by decide)) ⟨Nat.le_refl _, Nat.le_refl _⟩ ?_
                  rintro _ σ22 ⟨rfl, hX22, hF22, hE22⟩
                  have hg20_22 : σ22.2.2 33 p = some g20 := (congrFun (congrFun hF22.2.1 33) _).trans hg20
                  refine ev_istore (lv' := [(0, .ref 32), (1, .int (nI j1)), (2, .int (nI C)), (3, .int 1), (4, .int (nI (mk_m (s_se A j1) (s_np A)))), (5, .int fd), (6, .int co), (7, .int hi), (8, .int (nI p)), (9, .ref g20), (10, .int (s_pr A p))]) dX6_hire_100 (by decide) rfl ?_
                  refine ev_iload dX6_hire_102 rfl ?_
                  refine ev_iload_n dX6_hire_104 rfl rfl ?_
                  refine ev_icmp_le (tgt := 111) dX6_hire_105 (by decide) (fun c23 => ?_) (fun c23 => ?_)
                  · skip
                    refine ev_aload_n dX6_hire_111 rfl rfl ?_
                    refine ev_iload_n dX6_hire_112 rfl rfl ?_
                    refine ev_iload dX6_hire_113 rfl ?_
                    refine ev_iconst (v := 1) dX6_hire_115 (by decide) ?_
                    refine ev_iload dX6_hire_116 rfl ?_
                    refine ev_ishl (v := 1 <<< ((nI p) &&& 31)) dX6_hire_118 rfl ?_
                    refine ev_ior (v := nI (mk_m (s_se A j1) (s_np A) ||| 2 ^ p)) dX6_hire_119 (mk_o1 (by omega)) ?_
                    refine ev_callV (as := [.int (nI j1), .int (nI (mk_m (s_se A j1) (s_np A) ||| 2 ^ p))]) (st := []) dX6_hire_120 mfX6_scoreIf lk_X6_193 (ly_k hX22.ly 32 rfl) (by decide) rfl (by have hh := c_X6_scoreIf G (D + 3) A σ22 hA hX22 j1 (by omega) (mk_m (s_se A j1) (s_np A) ||| 2 ^ p) (Nat.or_lt_two_pow (mk_lt _ _) (Nat.pow_lt_pow_right (by decide) (by omega))) (cb_X.cg hct (fun a h1 h2 => hE22 a h1 (by omega))); rw [s_ifJ (by omega)] at hh; exact hh) rfl rfl (Nat.le_of_ble_eq_true rfl) (am_hR (by omega) (by decide)) ⟨Nat.le_refl _, Nat.le_refl _⟩ ?_
                    rintro _ _ ⟨rfl, rfl⟩
                    refine ev_istore (lv' := [(0, .ref 32), (1, .int (nI j1)), (2, .int (nI C)), (3, .int 1), (4, .int (nI (mk_m (s_se A j1) (s_np A)))), (5, .int fd), (6, .int co), (7, .int hi), (8, .int (nI p)), (9, .ref g20), (10, .int (s_pr A p)), (11, .int (s_wi A j1 p (nI j1)))]) dX6_hire_123 (by decide) rfl ?_
                    refine ev_iload dX6_hire_125 rfl ?_
                    refine ev_iconst (v := (-1)) dX6_hire_127 (by decide) ?_
                    refine ev_icmp_eq (tgt := 149) dX6_hire_128 (by decide) (fun c24 => ?_) (fun c24 => ?_)
                    · skip
                      refine ev_iconst (v := 0) dX6_hire_149 (by decide) ?_
                      refine ev_istore (lv' := [(0, .ref 32), (1, .int (nI j1)), (2, .int (nI C)), (3, .int 1), (4, .int (nI (mk_m (s_se A j1) (s_np A)))), (5, .int fd), (6, .int co), (7, .int hi), (8, .int (nI p)), (9, .ref g20), (10, .int (s_pr A p)), (11, .int (s_wi A j1 p (nI j1))), (12, .int 0)]) dX6_hire_150 (by decide) rfl ?_
                      refine ev_iload dX6_hire_152 rfl ?_
                      refine ev_iload dX6_hire_154 rfl ?_
                      refine ev_icmp_gt (tgt := 164) dX6_hire_156 (by decide) (fun c25 => ?_) (fun c25 => ?_)
                      · skip
                        refine ev_iload dX6_hire_164 rfl ?_
                        refine ev_istore (lv' := [(0, .ref 32), (1, .int (nI j1)), (2, .int (nI C)), (3, .int 1), (4, .int (nI (mk_m (s_se A j1) (s_np A)))), (5, .int fd), (6, .int co), (7, .int (s_wi A j1 p (nI j1))), (8, .int (nI p)), (9, .ref g20), (10, .int (s_pr A p)), (11, .int (s_wi A j1 p (nI j1))), (12, .int 0)]) dX6_hire_166 (by decide) rfl ?_
                        refine ev_iload dX6_hire_168 rfl ?_
                        refine ev_istore (lv' := [(0, .ref 32), (1, .int (nI j1)), (2, .int (nI C)), (3, .int 1), (4, .int (nI (mk_m (s_se A j1) (s_np A)))), (5, .int (nI p)), (6, .int co), (7, .int (s_wi A j1 p (nI j1))), (8, .int (nI p)), (9, .ref g20), (10, .int (s_pr A p)), (11, .int (s_wi A j1 p (nI j1))), (12, .int 0)]) dX6_hire_170 (by decide) rfl ?_
                        refine ev_iload dX6_hire_172 rfl ?_
                        refine ev_istore (lv' := [(0, .ref 32), (1, .int (nI j1)), (2, .int (nI C)), (3, .int 1), (4, .int (nI (mk_m (s_se A j1) (s_np A)))), (5, .int (nI p)), (6, .int (s_pr A p)), (7, .int (s_wi A j1 p (nI j1))), (8, .int (nI p)), (9, .ref g20), (10, .int (s_pr A p)), (11, .int (s_wi A j1 p (nI j1))), (12, .int 0)]) dX6_hire_174 (by decide) rfl ?_
                        refine ev_iinc (lv' := [(0, .ref 32), (1, .int (nI j1)), (2, .int (nI C)), (3, .int 1), (4, .int (nI (mk_m (s_se A j1) (s_np A)))), (5, .int (nI p)), (6, .int (s_pr A p)), (7, .int (s_wi A j1 p (nI j1))), (8, .int (nI (p + 1))), (9, .ref g20), (10, .int (s_pr A p)), (11, .int (s_wi A j1 p (nI j1))), (12, .int 0)]) (v := nI (p + 1)) dX6_hire_176 rfl (nI_1 _) (by decide) rfl ?_
                        refine ev_goto (tgt := 58) dX6_hire_179 (by decide) ?_
                        refine ev_keep (lv' := [(0, .ref 32), (1, .int (nI j1)), (2, .int (nI C)), (3, .int 1), (4, .int (nI (mk_m (s_se A j1) (s_np A)))), (5, .int (nI p)), (6, .int (s_pr A p)), (7, .int (s_wi A j1 p (nI j1))), (8, .int (nI (p + 1)))]) [0, 1, 2, 3, 4, 5, 6, 7, 8] rfl ?_
                        exact ih (p + 1) (nI p) (s_pr A p) (s_wi A j1 p (nI j1)) σ22 (by omega) (by rw [s_hiY ⟨c21, (c23)⟩ (Or.inl (by rw [← hhi]; exact c25))]; rfl) (by rw [s_hiY ⟨c21, (c23)⟩ (Or.inl (by rw [← hhi]; exact c25))]) (by rw [s_hiY ⟨c21, (c23)⟩ (Or.inl (by rw [← hhi]; exact c25))]) hX22 (fr_C.tr hFt hF22) (cb_X.cg hct (fun a h1 h2 => hE22 a h1 (by omega))) (cr_X.cg hrt (hE22 59 (by decide) (by decide))) (by omega)
                      · skip
                        refine ev_iload dX6_hire_159 rfl ?_
                        refine ev_if_eq (tgt := 176) dX6_hire_161 (by decide) (fun _ => ?_) (fun c => absurd (by decide) c)
                        refine ev_iinc (lv' := [(0, .ref 32), (1, .int (nI j1)), (2, .int (nI C)), (3, .int 1), (4, .int (nI (mk_m (s_se A j1) (s_np A)))), (5, .int fd), (6, .int co), (7, .int hi), (8, .int (nI (p + 1))), (9, .ref g20), (10, .int (s_pr A p)), (11, .int (s_wi A j1 p (nI j1))), (12, .int 0)]) (v := nI (p + 1)) dX6_hire_176 rfl (nI_1 _) (by decide) rfl ?_
                        refine ev_goto (tgt := 58) dX6_hire_179 (by decide) ?_
                        refine ev_keep (lv' := [(0, .ref 32), (1, .int (nI j1)), (2, .int (nI C)), (3, .int 1), (4, .int (nI (mk_m (s_se A j1) (s_np A)))), (5, .int fd), (6, .int co), (7, .int hi), (8, .int (nI (p + 1)))]) [0, 1, 2, 3, 4, 5, 6, 7, 8] rfl ?_
                        exact ih (p + 1) fd co hi σ22 (by omega) (by rw [s_hiN (fun z => z.elim (fun y => absurd y (by rw [← hhi]; exact c25)) (fun z => z.1 ((s_hiB (by omega)).mp (by rw [← hfd]; exact c24))))]; exact hfd) (by rw [s_hiN (fun z => z.elim (fun y => absurd y (by rw [← hhi]; exact c25)) (fun z => z.1 ((s_hiB (by omega)).mp (by rw [← hfd]; exact c24))))]; exact hco) (by rw [s_hiN (fun z => z.elim (fun y => absurd y (by rw [← hhi]; exact c25)) (fun z => z.1 ((s_hiB (by omega)).mp (by rw [← hfd]; exact c24))))]; exact hhi) hX22 (fr_C.tr hFt hF22) (cb_X.cg hct (fun a h1 h2 => hE22 a h1 (by omega))) (cr_X.cg hrt (hE22 59 (by decide) (by decide))) (by omega)
                    · skip
                      refine ev_iload dX6_hire_131 rfl ?_
                      refine ev_iload dX6_hire_133 rfl ?_
                      refine ev_icmp_ne (tgt := 149) dX6_hire_135 (by decide) (fun c26 => ?_) (fun c26 => ?_)
                      · skip
                        refine ev_iconst (v := 0) dX6_hire_149 (by decide) ?_
                        refine ev_istore (lv' := [(0, .ref 32), (1, .int (nI j1)), (2, .int (nI C)), (3, .int 1), (4, .int (nI (mk_m (s_se A j1) (s_np A)))), (5, .int fd), (6, .int co), (7, .int hi), (8, .int (nI p)), (9, .ref g20), (10, .int (s_pr A p)), (11, .int (s_wi A j1 p (nI j1))), (12, .int 0)]) dX6_hire_150 (by decide) rfl ?_
                        refine ev_iload dX6_hire_152 rfl ?_
                        refine ev_iload dX6_hire_154 rfl ?_
                        refine ev_icmp_gt (tgt := 164) dX6_hire_156 (by decide) (fun c27 => ?_) (fun c27 => ?_)
                        · skip
                          refine ev_iload dX6_hire_164 rfl ?_
                          refine ev_istore (lv' := [(0, .ref 32), (1, .int (nI j1)), (2, .int (nI C)), (3, .int 1), (4, .int (nI (mk_m (s_se A j1) (s_np A)))), (5, .int fd), (6, .int co), (7, .int (s_wi A j1 p (nI j1))), (8, .int (nI p)), (9, .ref g20), (10, .int (s_pr A p)), (11, .int (s_wi A j1 p (nI j1))), (12, .int 0)]) dX6_hire_166 (by decide) rfl ?_
                          refine ev_iload dX6_hire_168 rfl ?_
                          refine ev_istore (lv' := [(0, .ref 32), (1, .int (nI j1)), (2, .int (nI C)), (3, .int 1), (4, .int (nI (mk_m (s_se A j1) (s_np A)))), (5, .int (nI p)), (6, .int co), (7, .int (s_wi A j1 p (nI j1))), (8, .int (nI p)), (9, .ref g20), (10, .int (s_pr A p)), (11, .int (s_wi A j1 p (nI j1))), (12, .int 0)]) dX6_hire_170 (by decide) rfl ?_
                          refine ev_iload dX6_hire_172 rfl ?_
                          refine ev_istore (lv' := [(0, .ref 32), (1, .int (nI j1)), (2, .int (nI C)), (3, .int 1), (4, .int (nI (mk_m (s_se A j1) (s_np A)))), (5, .int (nI p)), (6, .int (s_pr A p)), (7, .int (s_wi A j1 p (nI j1))), (8, .int (nI p)), (9, .ref g20), (10, .int (s_pr A p)), (11, .int (s_wi A j1 p (nI j1))), (12, .int 0)]) dX6_hire_174 (by decide) rfl ?_
                          refine ev_iinc (lv' := [(0, .ref 32), (1, .int (nI j1)), (2, .int (nI C)), (3, .int 1), (4, .int (nI (mk_m (s_se A j1) (s_np A)))), (5, .int (nI p)), (6, .int (s_pr A p)), (7, .int (s_wi A j1 p (nI j1))), (8, .int (nI (p + 1))), (9, .ref g20), (10, .int (s_pr A p)), (11, .int (s_wi A j1 p (nI j1))), (12, .int 0)]) (v := nI (p + 1)) dX6_hire_176 rfl (nI_1 _) (by decide) rfl ?_
                          refine ev_goto (tgt := 58) dX6_hire_179 (by decide) ?_
                          refine ev_keep (lv' := [(0, .ref 32), (1, .int (nI j1)), (2, .int (nI C)), (3, .int 1), (4, .int (nI (mk_m (s_se A j1) (s_np A)))), (5, .int (nI p)), (6, .int (s_pr A p)), (7, .int (s_wi A j1 p (nI j1))), (8, .int (nI (p + 1)))]) [0, 1, 2, 3, 4, 5, 6, 7, 8] rfl ?_
                          exact ih (p + 1) (nI p) (s_pr A p) (s_wi A j1 p (nI j1)) σ22 (by omega) (by rw [s_hiY ⟨c21, (c23)⟩ (Or.inl (by rw [← hhi]; exact c27))]; rfl) (by rw [s_hiY ⟨c21, (c23)⟩ (Or.inl (by rw [← hhi]; exact c27))]) (by rw [s_hiY ⟨c21, (c23)⟩ (Or.inl (by rw [← hhi]; exact c27))]) hX22 (fr_C.tr hFt hF22) (cb_X.cg hct (fun a h1 h2 => hE22 a h1 (by omega))) (cr_X.cg hrt (hE22 59 (by decide) (by decide))) (by omega)
                        · skip
                          refine ev_iload dX6_hire_159 rfl ?_
                          refine ev_if_eq (tgt := 176) dX6_hire_161 (by decide) (fun _ => ?_) (fun c => absurd (by decide) c)
                          refine ev_iinc (lv' := [(0, .ref 32), (1, .int (nI j1)), (2, .int (nI C)), (3, .int 1), (4, .int (nI (mk_m (s_se A j1) (s_np A)))), (5, .int fd), (6, .int co), (7, .int hi), (8, .int (nI (p + 1))), (9, .ref g20), (10, .int (s_pr A p)), (11, .int (s_wi A j1 p (nI j1))), (12, .int 0)]) (v := nI (p + 1)) dX6_hire_176 rfl (nI_1 _) (by decide) rfl ?_
                          refine ev_goto (tgt := 58) dX6_hire_179 (by decide) ?_
                          refine ev_keep (lv' := [(0, .ref 32), (1, .int (nI j1)), (2, .int (nI C)), (3, .int 1), (4, .int (nI (mk_m (s_se A j1) (s_np A)))), (5, .int fd), (6, .int co), (7, .int hi), (8, .int (nI (p + 1)))]) [0, 1, 2, 3, 4, 5, 6, 7, 8] rfl ?_
                          exact ih (p + 1) fd co hi σ22 (by omega) (by rw [s_hiN (fun z => z.elim (fun y => absurd y (by rw [← hhi]; exact c27)) (fun z => c26 (z.2.1.trans hhi.symm)))]; exact hfd) (by rw [s_hiN (fun z => z.elim (fun y => absurd y (by rw [← hhi]; exact c27)) (fun z => c26 (z.2.1.trans hhi.symm)))]; exact hco) (by rw [s_hiN (fun z => z.elim (fun y => absurd y (by rw [← hhi]; exact c27)) (fun z => c26 (z.2.1.trans hhi.symm)))]; exact hhi) hX22 (fr_C.tr hFt hF22) (cb_X.cg hct (fun a h1 h2 => hE22 a h1 (by omega))) (cr_X.cg hrt (hE22 59 (by decide) (by decide))) (by omega)
                      · skip
                        refine ev_iload dX6_hire_138 rfl ?_
                        refine ev_iload dX6_hire_140 rfl ?_
                        refine ev_icmp_ge (tgt := 149) dX6_hire_142 (by decide) (fun c28 => ?_) (fun c28 => ?_)
                        · skip
                          refine ev_iconst (v := 0) dX6_hire_149 (by decide) ?_
                          refine ev_istore (lv' := [(0, .ref 32), (1, .int (nI j1)), (2, .int (nI C)), (3, .int 1), (4, .int (nI (mk_m (s_se A j1) (s_np A)))), (5, .int fd), (6, .int co), (7, .int hi), (8, .int (nI p)), (9, .ref g20), (10, .int (s_pr A p)), (11, .int (s_wi A j1 p (nI j1))), (12, .int 0)]) dX6_hire_150 (by decide) rfl ?_
                          refine ev_iload dX6_hire_152 rfl ?_
                          refine ev_iload dX6_hire_154 rfl ?_
                          refine ev_icmp_gt (tgt := 164) dX6_hire_156 (by decide) (fun c29 => ?_) (fun c29 => ?_)
                          · skip
                            refine ev_iload dX6_hire_164 rfl ?_
                            refine ev_istore (lv' := [(0, .ref 32), (1, .int (nI j1)), (2, .int (nI C)), (3, .int 1), (4, .int (nI (mk_m (s_se A j1) (s_np A)))), (5, .int fd), (6, .int co), (7, .int (s_wi A j1 p (nI j1))), (8, .int (nI p)), (9, .ref g20), (10, .int (s_pr A p)), (11, .int (s_wi A j1 p (nI j1))), (12, .int 0)]) dX6_hire_166 (by decide) rfl ?_
                            refine ev_iload dX6_hire_168 rfl ?_
                            refine ev_istore (lv' := [(0, .ref 32), (1, .int (nI j1)), (2, .int (nI C)), (3, .int 1), (4, .int (nI (mk_m (s_se A j1) (s_np A)))), (5, .int (nI p)), (6, .int co), (7, .int (s_wi A j1 p (nI j1))), (8, .int (nI p)), (9, .ref g20), (10, .int (s_pr A p)), (11, .int (s_wi A j1 p (nI j1))), (12, .int 0)]) dX6_hire_170 (by decide) rfl ?_
                            refine ev_iload dX6_hire_172 rfl ?_
                            refine ev_istore (lv' := [(0, .ref 32), (1, .int (nI j1)), (2, .int (nI C)), (3, .int 1), (4, .int (nI (mk_m (s_se A j1) (s_np A)))), (5, .int (nI p)), (6, .int (s_pr A p)), (7, .int (s_wi A j1 p (nI j1))), (8, .int (nI p)), (9, .ref g20), (10, .int (s_pr A p)), (11, .int (s_wi A j1 p (nI j1))), (12, .int 0)]) dX6_hire_174 (by decide) rfl ?_
                            refine ev_iinc (lv' := [(0, .ref 32), (1, .int (nI j1)), (2, .int (nI C)), (3, .int 1), (4, .int (nI (mk_m (s_se A j1) (s_np A)))), (5, .int (nI p)), (6, .int (s_pr A p)), (7, .int (s_wi A j1 p (nI j1))), (8, .int (nI (p + 1))), (9, .ref g20), (10, .int (s_pr A p)), (11, .int (s_wi A j1 p (nI j1))), (12, .int 0)]) (v := nI (p + 1)) dX6_hire_176 rfl (nI_1 _) (by decide) rfl ?_
                            refine ev_goto (tgt := 58) dX6_hire_179 (by decide) ?_
                            refine ev_keep (lv' := [(0, .ref 32), (1, .int (nI j1)), (2, .int (nI C)), (3, .int 1), (4, .int (nI (mk_m (s_se A j1) (s_np A)))), (5, .int (nI p)), (6, .int (s_pr A p)), (7, .int (s_wi A j1 p (nI j1))), (8, .int (nI (p + 1)))]) [0, 1, 2, 3, 4, 5, 6, 7, 8] rfl ?_
                            exact ih (p + 1) (nI p) (s_pr A p) (s_wi A j1 p (nI j1)) σ22 (by omega) (by rw [s_hiY ⟨c21, (c23)⟩ (Or.inl (by rw [← hhi]; exact c29))]; rfl) (by rw [s_hiY ⟨c21, (c23)⟩ (Or.inl (by rw [← hhi]; exact c29))]) (by rw [s_hiY ⟨c21, (c23)⟩ (Or.inl (by rw [← hhi]; exact c29))]) hX22 (fr_C.tr hFt hF22) (cb_X.cg hct (fun a h1 h2 => hE22 a h1 (by omega))) (cr_X.cg hrt (hE22 59 (by decide) (by decide))) (by omega)
                          · skip
                            refine ev_iload dX6_hire_159 rfl ?_
                            refine ev_if_eq (tgt := 176) dX6_hire_161 (by decide) (fun _ => ?_) (fun c => absurd (by decide) c)
                            refine ev_iinc (lv' := [(0, .ref 32), (1, .int (nI j1)), (2, .int (nI C)), (3, .int 1), (4, .int (nI (mk_m (s_se A j1) (s_np A)))), (5, .int fd), (6, .int co), (7, .int hi), (8, .int (nI (p + 1))), (9, .ref g20), (10, .int (s_pr A p)), (11, .int (s_wi A j1 p (nI j1))), (12, .int 0)]) (v := nI (p + 1)) dX6_hire_176 rfl (nI_1 _) (by decide) rfl ?_
                            refine ev_goto (tgt := 58) dX6_hire_179 (by decide) ?_
                            refine ev_keep (lv' := [(0, .ref 32), (1, .int (nI j1)), (2, .int (nI C)), (3, .int 1), (4, .int (nI (mk_m (s_se A j1) (s_np A)))), (5, .int fd), (6, .int co), (7, .int hi), (8, .int (nI (p + 1)))]) [0, 1, 2, 3, 4, 5, 6, 7, 8] rfl ?_
                            exact ih (p + 1) fd co hi σ22 (by omega) (by rw [s_hiN (fun z => z.elim (fun y => absurd y (by rw [← hhi]; exact c29)) (fun z => absurd z.2.2 (Int32.not_lt.mpr (by rw [← hco]; exact c28))))]; exact hfd) (by rw [s_hiN (fun z => z.elim (fun y => absurd y (by rw [← hhi]; exact c29)) (fun z => absurd z.2.2 (Int32.not_lt.mpr (by rw [← hco]; exact c28))))]; exact hco) (by rw [s_hiN (fun z => z.elim (fun y => absurd y (by rw [← hhi]; exact c29)) (fun z => absurd z.2.2 (Int32.not_lt.mpr (by rw [← hco]; exact c28))))]; exact hhi) hX22 (fr_C.tr hFt hF22) (cb_X.cg hct (fun a h1 h2 => hE22 a h1 (by omega))) (cr_X.cg hrt (hE22 59 (by decide) (by decide))) (by omega)
                        · skip
                          refine ev_iconst (v := 1) dX6_hire_145 (by decide) ?_
                          refine ev_goto (tgt := 150) dX6_hire_146 (by decide) ?_
                          refine ev_istore (lv' := [(0, .ref 32), (1, .int (nI j1)), (2, .int (nI C)), (3, .int 1), (4, .int (nI (mk_m (s_se A j1) (s_np A)))), (5, .int fd), (6, .int co), (7, .int hi), (8, .int (nI p)), (9, .ref g20), (10, .int (s_pr A p)), (11, .int (s_wi A j1 p (nI j1))), (12, .int 1)]) dX6_hire_150 (by decide) rfl ?_
                          refine ev_iload dX6_hire_152 rfl ?_
                          refine ev_iload dX6_hire_154 rfl ?_
                          refine ev_icmp_gt (tgt := 164) dX6_hire_156 (by decide) (fun c30 => ?_) (fun c30 => ?_)
                          · skip
                            refine ev_iload dX6_hire_164 rfl ?_
                            refine ev_istore (lv' := [(0, .ref 32), (1, .int (nI j1)), (2, .int (nI C)), (3, .int 1), (4, .int (nI (mk_m (s_se A j1) (s_np A)))), (5, .int fd), (6, .int co), (7, .int (s_wi A j1 p (nI j1))), (8, .int (nI p)), (9, .ref g20), (10, .int (s_pr A p)), (11, .int (s_wi A j1 p (nI j1))), (12, .int 1)]) dX6_hire_166 (by decide) rfl ?_
                            refine ev_iload dX6_hire_168 rfl ?_
                            refine ev_istore (lv' := [(0, .ref 32), (1, .int (nI j1)), (2, .int (nI C)), (3, .int 1), (4, .int (nI (mk_m (s_se A j1) (s_np A)))), (5, .int (nI p)), (6, .int co), (7, .int (s_wi A j1 p (nI j1))), (8, .int (nI p)), (9, .ref g20), (10, .int (s_pr A p)), (11, .int (s_wi A j1 p (nI j1))), (12, .int 1)]) dX6_hire_170 (by decide) rfl ?_
                            refine ev_iload dX6_hire_172 rfl ?_
                            refine ev_istore (lv' := [(0, .ref 32), (1, .int (nI j1)), (2, .int (nI C)), (3, .int 1), (4, .int (nI (mk_m (s_se A j1) (s_np A)))), (5, .int (nI p)), (6, .int (s_pr A p)), (7, .int (s_wi A j1 p (nI j1))), (8, .int (nI p)), (9, .ref g20), (10, .int (s_pr A p)), (11, .int (s_wi A j1 p (nI j1))), (12, .int 1)]) dX6_hire_174 (by decide) rfl ?_
                            refine ev_iinc (lv' := [(0, .ref 32), (1, .int (nI j1)), (2, .int (nI C)), (3, .int 1), (4, .int (nI (mk_m (s_se A j1) (s_np A)))), (5, .int (nI p)), (6, .int (s_pr A p)), (7, .int (s_wi A j1 p (nI j1))), (8, .int (nI (p + 1))), (9, .ref g20), (10, .int (s_pr A p)), (11, .int (s_wi A j1 p (nI j1))), (12, .int 1)]) (v := nI (p + 1)) dX6_hire_176 rfl (nI_1 _) (by decide) rfl ?_
                            refine ev_goto (tgt := 58) dX6_hire_179 (by decide) ?_
                            refine ev_keep (lv' := [(0, .ref 32), (1, .int (nI j1)), (2, .int (nI C)), (3, .int 1), (4, .int (nI (mk_m (s_se A j1) (s_np A)))), (5, .int (nI p)), (6, .int (s_pr A p)), (7, .int (s_wi A j1 p (nI j1))), (8, .int (nI (p + 1)))]) [0, 1, 2, 3, 4, 5, 6, 7, 8] rfl ?_
                            exact ih (p + 1) (nI p) (s_pr A p) (s_wi A j1 p (nI j1)) σ22 (by omega) (by rw [s_hiY ⟨c21, (c23)⟩ (Or.inl (by rw [← hhi]; exact c30))]; rfl) (by rw [s_hiY ⟨c21, (c23)⟩ (Or.inl (by rw [← hhi]; exact c30))]) (by rw [s_hiY ⟨c21, (c23)⟩ (Or.inl (by rw [← hhi]; exact c30))]) hX22 (fr_C.tr hFt hF22) (cb_X.cg hct (fun a h1 h2 => hE22 a h1 (by omega))) (cr_X.cg hrt (hE22 59 (by decide) (by decide))) (by omega)
                          · skip
                            refine ev_iload dX6_hire_159 rfl ?_
                            refine ev_if_eq (tgt := 176) dX6_hire_161 (by decide) (fun c => absurd c (by decide)) (fun _ => ?_)
                            refine ev_iload dX6_hire_164 rfl ?_
                            refine ev_istore (lv' := [(0, .ref 32), (1, .int (nI j1)), (2, .int (nI C)), (3, .int 1), (4, .int (nI (mk_m (s_se A j1) (s_np A)))), (5, .int fd), (6, .int co), (7, .int (s_wi A j1 p (nI j1))), (8, .int (nI p)), (9, .ref g20), (10, .int (s_pr A p)), (11, .int (s_wi A j1 p (nI j1))), (12, .int 1)]) dX6_hire_166 (by decide) rfl ?_
                            refine ev_iload dX6_hire_168 rfl ?_
                            refine ev_istore (lv' := [(0, .ref 32), (1, .int (nI j1)), (2, .int (nI C)), (3, .int 1), (4, .int (nI (mk_m (s_se A j1) (s_np A)))), (5, .int (nI p)), (6, .int co), (7, .int (s_wi A j1 p (nI j1))), (8, .int (nI p)), (9, .ref g20), (10, .int (s_pr A p)), (11, .int (s_wi A j1 p (nI j1))), (12, .int 1)]) dX6_hire_170 (by decide) rfl ?_
                            refine ev_iload dX6_hire_172 rfl ?_
                            refine ev_istore (lv' := [(0, .ref 32), (1, .int (nI j1)), (2, .int (nI C)), (3, .int 1), (4, .int (nI (mk_m (s_se A j1) (s_np A)))), (5, .int (nI p)), (6, .int (s_pr A p)), (7, .int (s_wi A j1 p (nI j1))), (8, .int (nI p)), (9, .ref g20), (10, .int (s_pr A p)), (11, .int (s_wi A j1 p (nI j1))), (12, .int 1)]) dX6_hire_174 (by decide) rfl ?_
                            refine ev_iinc (lv' := [(0, .ref 32), (1, .int (nI j1)), (2, .int (nI C)), (3, .int 1), (4, .int (nI (mk_m (s_se A j1) (s_np A)))), (5, .int (nI p)), (6, .int (s_pr A p)), (7, .int (s_wi A j1 p (nI j1))), (8, .int (nI (p + 1))), (9, .ref g20), (10, .int (s_pr A p)), (11, .int (s_wi A j1 p (nI j1))), (12, .int 1)]) (v := nI (p + 1)) dX6_hire_176 rfl (nI_1 _) (by decide) rfl ?_
                            refine ev_goto (tgt := 58) dX6_hire_179 (by decide) ?_
                            refine ev_keep (lv' := [(0, .ref 32), (1, .int (nI j1)), (2, .int (nI C)), (3, .int 1), (4, .int (nI (mk_m (s_se A j1) (s_np A)))), (5, .int (nI p)), (6, .int (s_pr A p)), (7, .int (s_wi A j1 p (nI j1))), (8, .int (nI (p + 1)))]) [0, 1, 2, 3, 4, 5, 6, 7, 8] rfl ?_
                            exact ih (p + 1) (nI p) (s_pr A p) (s_wi A j1 p (nI j1)) σ22 (by omega) (by rw [s_hiY ⟨c21, (c23)⟩ (Or.inr ⟨fun z => c24 (by rw [hfd]; exact (s_hiB (by omega)).mpr z), c26.trans hhi, by rw [← hco]; exact Int32.not_le.mp c28⟩)]; rfl) (by rw [s_hiY ⟨c21, (c23)⟩ (Or.inr ⟨fun z => c24 (by rw [hfd]; exact (s_hiB (by omega)).mpr z), c26.trans hhi, by rw [← hco]; exact Int32.not_le.mp c28⟩)]) (by rw [s_hiY ⟨c21, (c23)⟩ (Or.inr ⟨fun z => c24 (by rw [hfd]; exact (s_hiB (by omega)).mpr z), c26.trans hhi, by rw [← hco]; exact Int32.not_le.mp c28⟩)]) hX22 (fr_C.tr hFt hF22) (cb_X.cg hct (fun a h1 h2 => hE22 a h1 (by omega))) (cr_X.cg hrt (hE22 59 (by decide) (by decide))) (by omega)
                  · skip
                    refine ev_goto (tgt := 176) dX6_hire_108 (by decide) ?_
                    refine ev_iinc (lv' := [(0, .ref 32), (1, .int (nI j1)), (2, .int (nI C)), (3, .int 1), (4, .int (nI (mk_m (s_se A j1) (s_np A)))), (5, .int fd), (6, .int co), (7, .int hi), (8, .int (nI (p + 1))), (9, .ref g20), (10, .int (s_pr A p))]) (v := nI (p + 1)) dX6_hire_176 rfl (nI_1 _) (by decide) rfl ?_
                    refine ev_goto (tgt := 58) dX6_hire_179 (by decide) ?_
                    refine ev_keep (lv' := [(0, .ref 32), (1, .int (nI j1)), (2, .int (nI C)), (3, .int 1), (4, .int (nI (mk_m (s_se A j1) (s_np A)))), (5, .int fd), (6, .int co), (7, .int hi), (8, .int (nI (p + 1)))]) [0, 1, 2, 3, 4, 5, 6, 7, 8] rfl ?_
                    exact ih (p + 1) fd co hi σ22 (by omega) (by rw [s_hiF (fun z => absurd z.2 c23)]; exact hfd) (by rw [s_hiF (fun z => absurd z.2 c23)]; exact hco) (by rw [s_hiF (fun z => absurd z.2 c23)]; exact hhi) hX22 (fr_C.tr hFt hF22) (cb_X.cg hct (fun a h1 h2 => hE22 a h1 (by omega))) (cr_X.cg hrt (hE22 59 (by decide) (by decide))) (by omega)
                · skip
                  refine ev_goto (tgt := 176) dX6_hire_89 (by decide) ?_
                  refine ev_iinc (lv' := [(0, .ref 32), (1, .int (nI j1)), (2, .int (nI C)), (3, .int 1), (4, .int (nI (mk_m (s_se A j1) (s_np A)))), (5, .int fd), (6, .int co), (7, .int hi), (8, .int (nI (p + 1))), (9, .ref g20)]) (v := nI (p + 1)) dX6_hire_176 rfl (nI_1 _) (by decide) rfl ?_
                  refine ev_goto (tgt := 58) dX6_hire_179 (by decide) ?_
                  refine ev_keep (lv' := [(0, .ref 32), (1, .int (nI j1)), (2, .int (nI C)), (3, .int 1), (4, .int (nI (mk_m (s_se A j1) (s_np A)))), (5, .int fd), (6, .int co), (7, .int hi), (8, .int (nI (p + 1)))]) [0, 1, 2, 3, 4, 5, 6, 7, 8] rfl ?_
                  exact ih (p + 1) fd co hi τ (by omega) (by rw [s_hiF (fun z => c21 z.1)]; exact hfd) (by rw [s_hiF (fun z => c21 z.1)]; exact hco) (by rw [s_hiF (fun z => c21 z.1)]; exact hhi) hXt hFt hct hrt (by omega)
          exact lp _ 0 (-1) (-1) (s_now A j1) σ18 (Nat.zero_le _) rfl rfl rfl hX18 (fr_C.tr fr_C.rf hF18) hc18 hr18 (Nat.lt_succ_self _)
        · skip
          refine ev_if_ne (tgt := 31) dX6_hire_25 (by decide) (fun c => absurd (by decide) c) (fun _ => ?_)
          refine ev_bipush (v := (-7)) dX6_hire_28 (by decide) ?_
          refine ev_reti dX6_hire_30 rfl (Nat.zero_le _) (Nat.zero_le _) ?_
          refine ⟨?_, hX, fr_C.rf⟩
          simp [sp_hire, am_inN h1 (by omega), sN_n (show j1 < 2 ^ 31 by omega), am_inN hC (by omega), sN_n (show C < 2 ^ 31 by omega), (show ¬ w = 0 from fun z => h4 (Or.inl z)), (show ¬ w = 1 from fun z => h4 (Or.inr z))]
  · skip
    refine ev_if_ne (tgt := 10) dX6_hire_4 (by decide) (fun c => absurd (by decide) c) (fun _ => ?_)
    refine ev_bipush (v := (-5)) dX6_hire_7 (by decide) ?_
    refine ev_reti dX6_hire_9 rfl (Nat.zero_le _) (Nat.zero_le _) ?_
    refine ⟨?_, hX, fr_C.rf⟩
    simp [sp_hire, am_inF (by omega) h1]

