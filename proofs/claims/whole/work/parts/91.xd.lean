/-! the class: asks, feed, depth, copy, depthsBy -/
set_option maxHeartbeats 400000 in
set_option maxRecDepth 100000 in
theorem c_X6_asks (G : am_G) (D : Nat) (A : am_S) (σ : am_M) (hA : wf_A A) (hX : iv_X A σ) (part da l tr w : Int32) : am_Mt G (D + 3) mX6_asks [.ref 32, .int part, .int da, .int l, .int tr, .int w] σ 0 0 (am_qC A (.int (sp_asks A part da l tr w)) σ) := by
  have b7 := wf_np7 hA
  have b8 := wf_nq8 hA
  have b6 := wf_nt6 hA
  have b61 := wf_nt1 hA
  have b160 := wf_tp160 hA
  have brl := wf_rlt hA
  refine am_of moX6_asks (Nat.le_of_ble_eq_true rfl) ?_
  show am_Ev G mX6_asks (am_R (D + 3) 0 0) 0 0 (am_qC A (.int (sp_asks A part da l tr w)) σ) 0 [(0, .ref 32), (1, .int part), (2, .int da), (3, .int l), (4, .int tr), (5, .int w)] [] σ 0 0
  refine ev_iload_n dX6_asks_0 rfl rfl ?_
  refine ev_if_lt (tgt := 29) dX6_asks_1 (by decide) (fun c1 => ?_) (fun c1 => ?_)
  · skip
    refine ev_bipush (v := (-2)) dX6_asks_29 (by decide) ?_
    refine ev_reti dX6_asks_31 rfl (Nat.zero_le _) (Nat.zero_le _) ?_
    refine ⟨?_, hX, fr_C.rf⟩
    have hz : am_in part 3 = false := am_inF (by decide) (am_rgn (by decide) c1)
    simp [sp_asks, hz]
  · skip
    refine ev_iload_n dX6_asks_4 rfl rfl ?_
    refine ev_iconst (v := 2) dX6_asks_5 (by decide) ?_
    refine ev_icmp_gt (tgt := 29) dX6_asks_6 (by decide) (fun c2 => ?_) (fun c2 => ?_)
    · skip
      refine ev_bipush (v := (-2)) dX6_asks_29 (by decide) ?_
      refine ev_reti dX6_asks_31 rfl (Nat.zero_le _) (Nat.zero_le _) ?_
      refine ⟨?_, hX, fr_C.rf⟩
      have hz : am_in part 3 = false := am_inF (by decide) (am_rgm3 (c := 2) (by decide) (by decide) (Int32.not_le.mpr c2))
      simp [sp_asks, hz]
    · skip
      refine ev_iload_n dX6_asks_9 rfl rfl ?_
      refine ev_if_lt (tgt := 29) dX6_asks_10 (by decide) (fun c3 => ?_) (fun c3 => ?_)
      · skip
        refine ev_bipush (v := (-2)) dX6_asks_29 (by decide) ?_
        refine ev_reti dX6_asks_31 rfl (Nat.zero_le _) (Nat.zero_le _) ?_
        refine ⟨?_, hX, fr_C.rf⟩
        have hz : am_in da 100 = false := am_inF (by decide) (am_rgn (by decide) c3)
        simp [sp_asks, hz]
      · skip
        refine ev_iload_n dX6_asks_13 rfl rfl ?_
        refine ev_bipush (v := 99) dX6_asks_14 (by decide) ?_
        refine ev_icmp_gt (tgt := 29) dX6_asks_16 (by decide) (fun c4 => ?_) (fun c4 => ?_)
        · skip
          refine ev_bipush (v := (-2)) dX6_asks_29 (by decide) ?_
          refine ev_reti dX6_asks_31 rfl (Nat.zero_le _) (Nat.zero_le _) ?_
          refine ⟨?_, hX, fr_C.rf⟩
          have hz : am_in da 100 = false := am_inF (by decide) (am_rgm3 (c := 99) (by decide) (by decide) (Int32.not_le.mpr c4))
          simp [sp_asks, hz]
        · skip
          refine ev_iload_n dX6_asks_19 rfl rfl ?_
          refine ev_if_lt (tgt := 29) dX6_asks_20 (by decide) (fun c5 => ?_) (fun c5 => ?_)
          · skip
            refine ev_bipush (v := (-2)) dX6_asks_29 (by decide) ?_
            refine ev_reti dX6_asks_31 rfl (Nat.zero_le _) (Nat.zero_le _) ?_
            refine ⟨?_, hX, fr_C.rf⟩
            have hz : am_in l 100 = false := am_inF (by decide) (am_rgn (by decide) c5)
            simp [sp_asks, hz]
          · skip
            refine ev_iload_n dX6_asks_23 rfl rfl ?_
            refine ev_bipush (v := 99) dX6_asks_24 (by decide) ?_
            refine ev_icmp_le (tgt := 32) dX6_asks_26 (by decide) (fun c6 => ?_) (fun c6 => ?_)
            · skip
              refine ev_iload dX6_asks_32 rfl ?_
              refine ev_if_lt (tgt := 56) dX6_asks_34 (by decide) (fun c7 => ?_) (fun c7 => ?_)
              · skip
                refine ev_bipush (v := (-2)) dX6_asks_56 (by decide) ?_
                refine ev_reti dX6_asks_58 rfl (Nat.zero_le _) (Nat.zero_le _) ?_
                refine ⟨?_, hX, fr_C.rf⟩
                have hz : am_in tr 40 = false := am_inF (by decide) (am_rgn (by decide) c7)
                simp [sp_asks, hz]
              · skip
                refine ev_iload dX6_asks_37 rfl ?_
                refine ev_bipush (v := 39) dX6_asks_39 (by decide) ?_
                refine ev_icmp_gt (tgt := 56) dX6_asks_41 (by decide) (fun c8 => ?_) (fun c8 => ?_)
                · skip
                  refine ev_bipush (v := (-2)) dX6_asks_56 (by decide) ?_
                  refine ev_reti dX6_asks_58 rfl (Nat.zero_le _) (Nat.zero_le _) ?_
                  refine ⟨?_, hX, fr_C.rf⟩
                  have hz : am_in tr 40 = false := am_inF (by decide) (am_rgm3 (c := 39) (by decide) (by decide) (Int32.not_le.mpr c8))
                  simp [sp_asks, hz]
                · skip
                  refine ev_iload dX6_asks_44 rfl ?_
                  refine ev_if_lt (tgt := 56) dX6_asks_46 (by decide) (fun c9 => ?_) (fun c9 => ?_)
                  · skip
                    refine ev_bipush (v := (-2)) dX6_asks_56 (by decide) ?_
                    refine ev_reti dX6_asks_58 rfl (Nat.zero_le _) (Nat.zero_le _) ?_
                    refine ⟨?_, hX, fr_C.rf⟩
                    have hz : am_in w 7 = false := am_inF (by decide) (am_rgn (by decide) c9)
                    simp [sp_asks, hz]
                  · skip
                    refine ev_iload dX6_asks_49 rfl ?_
                    refine ev_bipush (v := 7) dX6_asks_51 (by decide) ?_
                    refine ev_icmp_lt (tgt := 59) dX6_asks_53 (by decide) (fun c10 => ?_) (fun c10 => ?_)
                    · skip
                      have hda : am_in da 100 = true := (am_inR (by decide)).mpr (am_rg3 (c := 99) (by decide) c3 (Int32.not_lt.mp c4))
                      have hl : am_in l 100 = true := (am_inR (by decide)).mpr (am_rg3 (c := 99) (by decide) c5 c6)
                      have htr : am_in tr 40 = true := (am_inR (by decide)).mpr (am_rg3 (c := 39) (by decide) c7 (Int32.not_lt.mp c8))
                      have hw : am_in w 7 = true := (am_inR (by decide)).mpr (am_rg1 (c := 7) (by decide) c9 c10)
                      obtain ⟨x, hx⟩ := hX.te brl
                      rcases am_w3i c1 (Int32.not_lt.mp c2) with rfl | rfl | rfl
                      · skip
                        refine ev_aload_n dX6_asks_59 rfl rfl ?_
                        refine ev_callV (as := []) (st := []) dX6_asks_60 mfX6_lawText lk_X6_108 (ly_k hX.ly 32 rfl) (by decide) rfl (c_X6_lawText G (D + 2) A σ hA hX x hx) rfl rfl (Nat.le_of_ble_eq_true rfl) (am_hR (by omega) (by decide)) ⟨Nat.le_refl _, Nat.le_refl _⟩ ?_
                        rintro _ _ ⟨rfl, rfl⟩
                        refine ev_astore (lv' := [(0, .ref 32), (1, .int 0), (2, .int da), (3, .int l), (4, .int tr), (5, .int w), (6, .ref x)]) dX6_asks_63 (by decide) rfl ?_
                        refine ev_aload dX6_asks_65 rfl ?_
                        refine ev_ifnonnullR (tgt := 73) dX6_asks_67 (by decide) ?_
                        refine ev_aload_n dX6_asks_73 rfl rfl ?_
                        refine ev_getR (b := 61) dX6_asks_74 fl_X6_65 (ly_k hX.ly 32 rfl) (ly_r hX.ly 11 rfl) ?_
                        refine ev_iload_n dX6_asks_77 rfl rfl ?_
                        refine ev_bipush (v := 10) dX6_asks_78 (by decide) ?_
                        refine ev_idiv (v := da / 10) dX6_asks_80 (by decide) rfl ?_
                        refine ev_iload_n dX6_asks_81 rfl rfl ?_
                        refine ev_bipush (v := 10) dX6_asks_82 (by decide) ?_
                        refine ev_irem (v := da - da / 10 * 10) dX6_asks_84 (by decide) rfl ?_
                        refine ev_iload_n dX6_asks_85 rfl rfl ?_
                        refine ev_callS (as := [.ref 61, .int (da / 10), .int (da - da / 10 * 10), .int l]) (st := []) dX6_asks_86 mfX6_name lk_X6_111 (c_X6_name G (D + 2) A σ hX 61 (ly_k hX.ly 61 rfl) (by decide) (da / 10) (da - da / 10 * 10) l) rfl rfl (Nat.le_of_ble_eq_true rfl) (am_hR (by omega) (by decide)) ⟨Nat.le_refl _, Nat.le_refl _⟩ ?_
                        rintro _ _ ⟨rfl, rfl⟩
                        refine ev_aload_n dX6_asks_89 rfl rfl ?_
                        refine ev_getR (b := 61) dX6_asks_90 fl_X6_65 (ly_k (iv_X.sc (by omega) (iv_X.sc (by omega) (iv_X.sc (by omega) hX))).ly 32 rfl) (ly_r (iv_X.sc (by omega) (iv_X.sc (by omega) (iv_X.sc (by omega) hX))).ly 11 rfl) ?_
                        refine ev_iload dX6_asks_93 rfl ?_
                        refine ev_bipush (v := 10) dX6_asks_95 (by decide) ?_
                        refine ev_idiv (v := tr / 10) dX6_asks_97 (by decide) rfl ?_
                        refine ev_iload dX6_asks_98 rfl ?_
                        refine ev_bipush (v := 10) dX6_asks_100 (by decide) ?_
                        refine ev_irem (v := tr - tr / 10 * 10) dX6_asks_102 (by decide) rfl ?_
                        refine ev_iload dX6_asks_103 rfl ?_
                        refine ev_callS (as := [.ref 61, .int (tr / 10), .int (tr - tr / 10 * 10), .int w]) (st := []) dX6_asks_105 mfX6_nameMore lk_X6_115 (c_X6_nameMore G (D + 2) A (am_sI (am_sI (am_sI σ 61 0 (da / 10)) 61 1 (da - da / 10 * 10)) 61 2 l) (iv_X.sc (by omega) (iv_X.sc (by omega) (iv_X.sc (by omega) hX))) 61 (ly_k (iv_X.sc (by omega) (iv_X.sc (by omega) (iv_X.sc (by omega) hX))).ly 61 rfl) (by decide) (tr / 10) (tr - tr / 10 * 10) w) rfl rfl (Nat.le_of_ble_eq_true rfl) (am_hR (by omega) (by decide)) ⟨Nat.le_refl _, Nat.le_refl _⟩ ?_
                        rintro _ _ ⟨rfl, rfl⟩
                        refine ev_aload dX6_asks_108 rfl ?_
                        refine ev_iload_n dX6_asks_110 rfl rfl ?_
                        refine ev_aload_n dX6_asks_111 rfl rfl ?_
                        refine ev_getR (b := 61) dX6_asks_112 fl_X6_65 (ly_k (iv_X.sc (by omega) (iv_X.sc (by omega) (iv_X.sc (by omega) (iv_X.sc (by omega) (iv_X.sc (by omega) (iv_X.sc (by omega) hX)))))).ly 32 rfl) (ly_r (iv_X.sc (by omega) (iv_X.sc (by omega) (iv_X.sc (by omega) (iv_X.sc (by omega) (iv_X.sc (by omega) (iv_X.sc (by omega) hX)))))).ly 11 rfl) ?_
                        have hn11 : s_na (am_sI (am_sI (am_sI (am_sI (am_sI (am_sI σ 61 0 (da / 10)) 61 1 (da - da / 10 * 10)) 61 2 l) 61 3 (tr / 10)) 61 4 (tr - tr / 10 * 10)) 61 5 w) 61 (s_nm (da / 10) (da - da / 10 * 10) l (tr / 10) (tr - tr / 10 * 10) w) := by
                          intro j hj
                          rcases (show j = 0 ∨ j = 1 ∨ j = 2 ∨ j = 3 ∨ j = 4 ∨ j = 5 by omega) with rfl | rfl | rfl | rfl | rfl | rfl <;> rfl
                        have hxx11 : (am_sI (am_sI (am_sI (am_sI (am_sI (am_sI σ 61 0 (da / 10)) 61 1 (da - da / 10 * 10)) 61 2 l) 61 3 (tr / 10)) 61 4 (tr - tr / 10 * 10)) 61 5 w).2.2 37 (s_rl A) = some x := hx
                        refine ev_callV (as := [.int 0, .ref 61]) (st := []) dX6_asks_115 mfX5_says lk_X6_118 ((iv_X.sc (by omega) (iv_X.sc (by omega) (iv_X.sc (by omega) (iv_X.sc (by omega) (iv_X.sc (by omega) (iv_X.sc (by omega) hX)))))).tk brl hx) (by decide) rfl (show am_Mt G _ mX5_says [.ref x, .int 0, .ref 61] (am_sI (am_sI (am_sI (am_sI (am_sI (am_sI σ 61 0 (da / 10)) 61 1 (da - da / 10 * 10)) 61 2 l) 61 3 (tr / 10)) 61 4 (tr - tr / 10 * 10)) 61 5 w) 0 0 (am_qT1 A (.int (s_as A 0 (s_nm (da / 10) (da - da / 10 * 10) l (tr / 10) (tr - tr / 10 * 10) w))) (am_sI (am_sI (am_sI (am_sI (am_sI (am_sI σ 61 0 (da / 10)) 61 1 (da - da / 10 * 10)) 61 2 l) 61 3 (tr / 10)) 61 4 (tr - tr / 10 * 10)) 61 5 w)) from c_X5_says0 G D A (am_sI (am_sI (am_sI (am_sI (am_sI (am_sI σ 61 0 (da / 10)) 61 1 (da - da / 10 * 10)) 61 2 l) 61 3 (tr / 10)) 61 4 (tr - tr / 10 * 10)) 61 5 w) hA (iv_X.sc (by omega) (iv_X.sc (by omega) (iv_X.sc (by omega) (iv_X.sc (by omega) (iv_X.sc (by omega) (iv_X.sc (by omega) hX)))))) (s_rl A) x brl hxx11 61 (ly_k (iv_X.sc (by omega) (iv_X.sc (by omega) (iv_X.sc (by omega) (iv_X.sc (by omega) (iv_X.sc (by omega) (iv_X.sc (by omega) hX)))))).ly 61 rfl) (by decide) (s_nm (da / 10) (da - da / 10 * 10) l (tr / 10) (tr - tr / 10 * 10) w) hn11) rfl rfl (Nat.le_of_ble_eq_true rfl) (am_hR (by omega) (by decide)) ⟨Nat.le_refl _, Nat.le_refl _⟩ ?_
                        rintro _ σ11 ⟨rfl, hX11, hF11⟩
                        refine ev_reti dX6_asks_118 rfl (Nat.zero_le _) (Nat.zero_le _) ?_
                        refine ⟨?_, hX11, (fr_C.tr (fr_C.wr (by omega) (fr_C.wr (by omega) (fr_C.wr (by omega) (fr_C.wr (by omega) (fr_C.wr (by omega) (fr_C.wr (by omega) fr_C.rf)))))) hF11.C)⟩
                        unfold sp_asks
                        rw [hda, hl, htr, hw, show am_in 0 3 = true by decide, if_pos (show (true && (true && (true && (true && true)))) = true from rfl), show sN (0 : Int32) = 0 by decide]
                      · skip
                        refine ev_aload_n dX6_asks_59 rfl rfl ?_
                        refine ev_callV (as := []) (st := []) dX6_asks_60 mfX6_lawText lk_X6_108 (ly_k hX.ly 32 rfl) (by decide) rfl (c_X6_lawText G (D + 2) A σ hA hX x hx) rfl rfl (Nat.le_of_ble_eq_true rfl) (am_hR (by omega) (by decide)) ⟨Nat.le_refl _, Nat.le_refl _⟩ ?_
                        rintro _ _ ⟨rfl, rfl⟩
                        refine ev_astore (lv' := [(0, .ref 32), (1, .int 1), (2, .int da), (3, .int l), (4, .int tr), (5, .int w), (6, .ref x)]) dX6_asks_63 (by decide) rfl ?_
                        refine ev_aload dX6_asks_65 rfl ?_
                        refine ev_ifnonnullR (tgt := 73) dX6_asks_67 (by decide) ?_
                        refine ev_aload_n dX6_asks_73 rfl rfl ?_
                        refine ev_getR (b := 61) dX6_asks_74 fl_X6_65 (ly_k hX.ly 32 rfl) (ly_r hX.ly 11 rfl) ?_
                        refine ev_iload_n dX6_asks_77 rfl rfl ?_
                        refine ev_bipush (v := 10) dX6_asks_78 (by decide) ?_
                        refine ev_idiv (v := da / 10) dX6_asks_80 (by decide) rfl ?_
                        refine ev_iload_n dX6_asks_81 rfl rfl ?_
                        refine ev_bipush (v := 10) dX6_asks_82 (by decide) ?_
                        refine ev_irem (v := da - da / 10 * 10) dX6_asks_84 (by decide) rfl ?_
                        refine ev_iload_n dX6_asks_85 rfl rfl ?_
                        refine ev_callS (as := [.ref 61, .int (da / 10), .int (da - da / 10 * 10), .int l]) (st := []) dX6_asks_86 mfX6_name lk_X6_111 (c_X6_name G (D + 2) A σ hX 61 (ly_k hX.ly 61 rfl) (by decide) (da / 10) (da - da / 10 * 10) l) rfl rfl (Nat.le_of_ble_eq_true rfl) (am_hR (by omega) (by decide)) ⟨Nat.le_refl _, Nat.le_refl _⟩ ?_
                        rintro _ _ ⟨rfl, rfl⟩
                        refine ev_aload_n dX6_asks_89 rfl rfl ?_
                        refine ev_getR (b := 61) dX6_asks_90 fl_X6_65 (ly_k (iv_X.sc (by omega) (iv_X.sc (by omega) (iv_X.sc (by omega) hX))).ly 32 rfl) (ly_r (iv_X.sc (by omega) (iv_X.sc (by omega) (iv_X.sc (by omega) hX))).ly 11 rfl) ?_
                        refine ev_iload dX6_asks_93 rfl ?_
                        refine ev_bipush (v := 10) dX6_asks_95 (by decide) ?_
                        refine ev_idiv (v := tr / 10) dX6_asks_97 (by decide) rfl ?_
                        refine ev_iload dX6_asks_98 rfl ?_
                        refine ev_bipush (v := 10) dX6_asks_100 (by decide) ?_
                        refine ev_irem (v := tr - tr / 10 * 10) dX6_asks_102 (by decide) rfl ?_
                        refine ev_iload dX6_asks_103 rfl ?_
                        refine ev_callS (as := [.ref 61, .int (tr / 10), .int (tr - tr / 10 * 10), .int w]) (st := []) dX6_asks_105 mfX6_nameMore lk_X6_115 (c_X6_nameMore G (D + 2) A (am_sI (am_sI (am_sI σ 61 0 (da / 10)) 61 1 (da - da / 10 * 10)) 61 2 l) (iv_X.sc (by omega) (iv_X.sc (by omega) (iv_X.sc (by omega) hX))) 61 (ly_k (iv_X.sc (by omega) (iv_X.sc (by omega) (iv_X.sc (by omega) hX))).ly 61 rfl) (by decide) (tr / 10) (tr - tr / 10 * 10) w) rfl rfl (Nat.le_of_ble_eq_true rfl) (am_hR (by omega) (by decide)) ⟨Nat.le_refl _, Nat.le_refl _⟩ ?_
                        rintro _ _ ⟨rfl, rfl⟩
                        refine ev_aload dX6_asks_108 rfl ?_
                        refine ev_iload_n dX6_asks_110 rfl rfl ?_
                        refine ev_aload_n dX6_asks_111 rfl rfl ?_
                        refine ev_getR (b := 61) dX6_asks_112 fl_X6_65 (ly_k (iv_X.sc (by omega) (iv_X.sc (by omega) (iv_X.sc (by omega) (iv_X.sc (by omega) (iv_X.sc (by omega) (iv_X.sc (by omega) hX)))))).ly 32 rfl) (ly_r (iv_X.sc (by omega) (iv_X.sc (by omega) (iv_X.sc (by omega) (iv_X.sc (by omega) (iv_X.sc (by omega) (iv_X.sc (by omega) hX)))))).ly 11 rfl) ?_
                        have hn12 : s_na (am_sI (am_sI (am_sI (am_sI (am_sI (am_sI σ 61 0 (da / 10)) 61 1 (da - da / 10 * 10)) 61 2 l) 61 3 (tr / 10)) 61 4 (tr - tr / 10 * 10)) 61 5 w) 61 (s_nm (da / 10) (da - da / 10 * 10) l (tr / 10) (tr - tr / 10 * 10) w) := by
                          intro j hj
                          rcases (show j = 0 ∨ j = 1 ∨ j = 2 ∨ j = 3 ∨ j = 4 ∨ j = 5 by omega) with rfl | rfl | rfl | rfl | rfl | rfl <;> rfl
                        have hxx12 : (am_sI (am_sI (am_sI (am_sI (am_sI (am_sI σ 61 0 (da / 10)) 61 1 (da - da / 10 * 10)) 61 2 l) 61 3 (tr / 10)) 61 4 (tr - tr / 10 * 10)) 61 5 w).2.2 37 (s_rl A) = some x := hx
                        refine ev_callV (as := [.int 1, .ref 61]) (st := []) dX6_asks_115 mfX5_says lk_X6_118 ((iv_X.sc (by omega) (iv_X.sc (by omega) (iv_X.sc (by omega) (iv_X.sc (by omega) (iv_X.sc (by omega) (iv_X.sc (by omega) hX)))))).tk brl hx) (by decide) rfl (show am_Mt G _ mX5_says [.ref x, .int 1, .ref 61] (am_sI (am_sI (am_sI (am_sI (am_sI (am_sI σ 61 0 (da / 10)) 61 1 (da - da / 10 * 10)) 61 2 l) 61 3 (tr / 10)) 61 4 (tr - tr / 10 * 10)) 61 5 w) 0 0 (am_qT1 A (.int (s_as A 1 (s_nm (da / 10) (da - da / 10 * 10) l (tr / 10) (tr - tr / 10 * 10) w))) (am_sI (am_sI (am_sI (am_sI (am_sI (am_sI σ 61 0 (da / 10)) 61 1 (da - da / 10 * 10)) 61 2 l) 61 3 (tr / 10)) 61 4 (tr - tr / 10 * 10)) 61 5 w)) from c_X5_says1 G D A (am_sI (am_sI (am_sI (am_sI (am_sI (am_sI σ 61 0 (da / 10)) 61 1 (da - da / 10 * 10)) 61 2 l) 61 3 (tr / 10)) 61 4 (tr - tr / 10 * 10)) 61 5 w) hA (iv_X.sc (by omega) (iv_X.sc (by omega) (iv_X.sc (by omega) (iv_X.sc (by omega) (iv_X.sc (by omega) (iv_X.sc (by omega) hX)))))) (s_rl A) x brl hxx12 61 (ly_k (iv_X.sc (by omega) (iv_X.sc (by omega) (iv_X.sc (by omega) (iv_X.sc (by omega) (iv_X.sc (by omega) (iv_X.sc (by omega) hX)))))).ly 61 rfl) (by decide) (s_nm (da / 10) (da - da / 10 * 10) l (tr / 10) (tr - tr / 10 * 10) w) hn12) rfl rfl (Nat.le_of_ble_eq_true rfl) (am_hR (by omega) (by decide)) ⟨Nat.le_refl _, Nat.le_refl _⟩ ?_
                        rintro _ σ12 ⟨rfl, hX12, hF12⟩
                        refine ev_reti dX6_asks_118 rfl (Nat.zero_le _) (Nat.zero_le _) ?_
                        refine ⟨?_, hX12, (fr_C.tr (fr_C.wr (by omega) (fr_C.wr (by omega) (fr_C.wr (by omega) (fr_C.wr (by omega) (fr_C.wr (by omega) (fr_C.wr (by omega) fr_C.rf)))))) hF12.C)⟩
                        unfold sp_asks
                        rw [hda, hl, htr, hw, show am_in 1 3 = true by decide, if_pos (show (true && (true && (true && (true && true)))) = true from rfl), show sN (1 : Int32) = 1 by decide]
                      · skip
                        refine ev_aload_n dX6_asks_59 rfl rfl ?_
                        refine ev_callV (as := []) (st := []) dX6_asks_60 mfX6_lawText lk_X6_108 (ly_k hX.ly 32 rfl) (by decide) rfl (c_X6_lawText G (D + 2) A σ hA hX x hx) rfl rfl (Nat.le_of_ble_eq_true rfl) (am_hR (by omega) (by decide)) ⟨Nat.le_refl _, Nat.le_refl _⟩ ?_
                        rintro _ _ ⟨rfl, rfl⟩
                        refine ev_astore (lv' := [(0, .ref 32), (1, .int 2), (2, .int da), (3, .int l), (4, .int tr), (5, .int w), (6, .ref x)]) dX6_asks_63 (by decide) rfl ?_
                        refine ev_aload dX6_asks_65 rfl ?_
                        refine ev_ifnonnullR (tgt := 73) dX6_asks_67 (by decide) ?_
                        refine ev_aload_n dX6_asks_73 rfl rfl ?_
                        refine ev_getR (b := 61) dX6_asks_74 fl_X6_65 (ly_k hX.ly 32 rfl) (ly_r hX.ly 11 rfl) ?_
                        refine ev_iload_n dX6_asks_77 rfl rfl ?_
                        refine ev_bipush (v := 10) dX6_asks_78 (by decide) ?_
                        refine ev_idiv (v := da / 10) dX6_asks_80 (by decide) rfl ?_
                        refine ev_iload_n dX6_asks_81 rfl rfl ?_
                        refine ev_bipush (v := 10) dX6_asks_82 (by decide) ?_
                        refine ev_irem (v := da - da / 10 * 10) dX6_asks_84 (by decide) rfl ?_
                        refine ev_iload_n dX6_asks_85 rfl rfl ?_
                        refine ev_callS (as := [.ref 61, .int (da / 10), .int (da - da / 10 * 10), .int l]) (st := []) dX6_asks_86 mfX6_name lk_X6_111 (c_X6_name G (D + 2) A σ hX 61 (ly_k hX.ly 61 rfl) (by decide) (da / 10) (da - da / 10 * 10) l) rfl rfl (Nat.le_of_ble_eq_true rfl) (am_hR (by omega) (by decide)) ⟨Nat.le_refl _, Nat.le_refl _⟩ ?_
                        rintro _ _ ⟨rfl, rfl⟩
                        refine ev_aload_n dX6_asks_89 rfl rfl ?_
                        refine ev_getR (b := 61) dX6_asks_90 fl_X6_65 (ly_k (iv_X.sc (by omega) (iv_X.sc (by omega) (iv_X.sc (by omega) hX))).ly 32 rfl) (ly_r (iv_X.sc (by omega) (iv_X.sc (by omega) (iv_X.sc (by omega) hX))).ly 11 rfl) ?_
                        refine ev_iload dX6_asks_93 rfl ?_
                        refine ev_bipush (v := 10) dX6_asks_95 (by decide) ?_
                        refine ev_idiv (v := tr / 10) dX6_asks_97 (by decide) rfl ?_
                        refine ev_iload dX6_asks_98 rfl ?_
                        refine ev_bipush (v := 10) dX6_asks_100 (by decide) ?_
                        refine ev_irem (v := tr - tr / 10 * 10) dX6_asks_102 (by decide) rfl ?_
                        refine ev_iload dX6_asks_103 rfl ?_
                        refine ev_callS (as := [.ref 61, .int (tr / 10), .int (tr - tr / 10 * 10), .int w]) (st := []) dX6_asks_105 mfX6_nameMore lk_X6_115 (c_X6_nameMore G (D + 2) A (am_sI (am_sI (am_sI σ 61 0 (da / 10)) 61 1 (da - da / 10 * 10)) 61 2 l) (iv_X.sc (by omega) (iv_X.sc (by omega) (iv_X.sc (by omega) hX))) 61 (ly_k (iv_X.sc (by omega) (iv_X.sc (by omega) (iv_X.sc (by omega) hX))).ly 61 rfl) (by decide) (tr / 10) (tr - tr / 10 * 10) w) rfl rfl (Nat.le_of_ble_eq_true rfl) (am_hR (by omega) (by decide)) ⟨Nat.le_refl _, Nat.le_refl _⟩ ?_
                        rintro _ _ ⟨rfl, rfl⟩
                        refine ev_aload dX6_asks_108 rfl ?_
                        refine ev_iload_n dX6_asks_110 rfl rfl ?_
                        refine ev_aload_n dX6_asks_111 rfl rfl ?_
                        refine ev_getR (b := 61) dX6_asks_112 fl_X6_65 (ly_k (iv_X.sc (by omega) (iv_X.sc (by omega) (iv_X.sc (by omega) (iv_X.sc (by omega) (iv_X.sc (by omega) (iv_X.sc (by omega) hX)))))).ly 32 rfl) (ly_r (iv_X.sc (by omega) (iv_X.sc (by omega) (iv_X.sc (by omega) (iv_X.sc (by omega) (iv_X.sc (by omega) (iv_X.sc (by omega) hX)))))).ly 11 rfl) ?_
                        have hn13 : s_na (am_sI (am_sI (am_sI (am_sI (am_sI (am_sI σ 61 0 (da / 10)) 61 1 (da - da / 10 * 10)) 61 2 l) 61 3 (tr / 10)) 61 4 (tr - tr / 10 * 10)) 61 5 w) 61 (s_nm (da / 10) (da - da / 10 * 10) l (tr / 10) (tr - tr / 10 * 10) w) := by
                          intro j hj
                          rcases (show j = 0 ∨ j = 1 ∨ j = 2 ∨ j = 3 ∨ j = 4 ∨ j = 5 by omega) with rfl | rfl | rfl | rfl | rfl | rfl <;> rfl
                        have hxx13 : (am_sI (am_sI (am_sI (am_sI (am_sI (am_sI σ 61 0 (da / 10)) 61 1 (da - da / 10 * 10)) 61 2 l) 61 3 (tr / 10)) 61 4 (tr - tr / 10 * 10)) 61 5 w).2.2 37 (s_rl A) = some x := hx
                        refine ev_callV (as := [.int 2, .ref 61]) (st := []) dX6_asks_115 mfX5_says lk_X6_118 ((iv_X.sc (by omega) (iv_X.sc (by omega) (iv_X.sc (by omega) (iv_X.sc (by omega) (iv_X.sc (by omega) (iv_X.sc (by omega) hX)))))).tk brl hx) (by decide) rfl (show am_Mt G _ mX5_says [.ref x, .int 2, .ref 61] (am_sI (am_sI (am_sI (am_sI (am_sI (am_sI σ 61 0 (da / 10)) 61 1 (da - da / 10 * 10)) 61 2 l) 61 3 (tr / 10)) 61 4 (tr - tr / 10 * 10)) 61 5 w) 0 0 (am_qT1 A (.int (s_as A 2 (s_nm (da / 10) (da - da / 10 * 10) l (tr / 10) (tr - tr / 10 * 10) w))) (am_sI (am_sI (am_sI (am_sI (am_sI (am_sI σ 61 0 (da / 10)) 61 1 (da - da / 10 * 10)) 61 2 l) 61 3 (tr / 10)) 61 4 (tr - tr / 10 * 10)) 61 5 w)) from c_X5_says2 G D A (am_sI (am_sI (am_sI (am_sI (am_sI (am_sI σ 61 0 (da / 10)) 61 1 (da - da / 10 * 10)) 61 2 l) 61 3 (tr / 10)) 61 4 (tr - tr / 10 * 10)) 61 5 w) hA (iv_X.sc (by omega) (iv_X.sc (by omega) (iv_X.sc (by omega) (iv_X.sc (by omega) (iv_X.sc (by omega) (iv_X.sc (by omega) hX)))))) (s_rl A) x brl hxx13 61 (ly_k (iv_X.sc (by omega) (iv_X.sc (by omega) (iv_X.sc (by omega) (iv_X.sc (by omega) (iv_X.sc (by omega) (iv_X.sc (by omega) hX)))))).ly 61 rfl) (by decide) (s_nm (da / 10) (da - da / 10 * 10) l (tr / 10) (tr - tr / 10 * 10) w) hn13) rfl rfl (Nat.le_of_ble_eq_true rfl) (am_hR (by omega) (by decide)) ⟨Nat.le_refl _, Nat.le_refl _⟩ ?_
                        rintro _ σ13 ⟨rfl, hX13, hF13⟩
                        refine ev_reti dX6_asks_118 rfl (Nat.zero_le _) (Nat.zero_le _) ?_
                        refine ⟨?_, hX13, (fr_C.tr (fr_C.wr (by omega) (fr_C.wr (by omega) (fr_C.wr (by omega) (fr_C.wr (by omega) (fr_C.wr (by omega) (fr_C.wr (by omega) fr_C.rf)))))) hF13.C)⟩
                        unfold sp_asks
                        rw [hda, hl, htr, hw, show am_in 2 3 = true by decide, if_pos (show (true && (true && (true && (true && true)))) = true from rfl), show sN (2 : Int32) = 2 by decide]
                    · skip
                      refine ev_bipush (v := (-2)) dX6_asks_56 (by decide) ?_
                      refine ev_reti dX6_asks_58 rfl (Nat.zero_le _) (Nat.zero_le _) ?_
                      refine ⟨?_, hX, fr_C.rf⟩
                      have hz : am_in w 7 = false := am_inF (by decide) (am_rgm2 (c := 7) (by decide) c10)
                      simp [sp_asks, hz]
            · skip
              refine ev_bipush (v := (-2)) dX6_asks_29 (by decide) ?_
              refine ev_reti dX6_asks_31 rfl (Nat.zero_le _) (Nat.zero_le _) ?_
              refine ⟨?_, hX, fr_C.rf⟩
              have hz : am_in l 100 = false := am_inF (by decide) (am_rgm3 (c := 99) (by decide) (by decide) c6)
              simp [sp_asks, hz]

theorem c_X4_put (G : am_G) (D : Nat) (σ : am_M) (hT : ty_T σ) (m : Nat) (hm : m < 160) (h2 : σ.2.1 38 2 = nI m) (v : Int32) : am_Mt G D mX4_put [.ref 38, .int v] σ 0 0 (am_qv (am_sI (am_sI σ 39 m v) 38 2 (nI (m + 1)))) := by
  refine am_of moX4_put (Nat.le_of_ble_eq_true rfl) ?_
  show am_Ev G mX4_put (am_R D 0 0) 0 0 (am_qv (am_sI (am_sI σ 39 m v) 38 2 (nI (m + 1)))) 0 [(0, .ref 38), (1, .int v)] [] σ 0 0
  refine ev_aload_n dX4_put_0 rfl rfl ?_
  refine ev_getI (v := nI m) dX4_put_1 fl_X4_16 hT.1 h2 ?_
  refine ev_sipush (v := 160) dX4_put_4 (by decide) ?_
  refine ev_icmp_lt (tgt := 11) dX4_put_7 (by decide) (fun _ => ?_) (fun c => absurd (nI_lt (b := 160) hm (by decide)) c)
  refine ev_aload_n dX4_put_11 rfl rfl ?_
  refine ev_getR (b := 39) dX4_put_12 fl_X4_9 hT.1 hT.2.2.2.1 ?_
  refine ev_aload_n dX4_put_15 rfl rfl ?_
  refine ev_getI (v := nI m) dX4_put_16 fl_X4_16 hT.1 h2 ?_
  refine ev_iload_n dX4_put_19 rfl rfl ?_
  refine ev_iast dX4_put_20 hT.2.1 (am_ixn hm (by decide)) ?_
  refine ev_aload_n dX4_put_21 rfl rfl ?_
  refine ev_dup dX4_put_22 rfl ?_
  refine ev_getI (v := nI m) dX4_put_23 fl_X4_16 hT.1 (am_ru (by omega) h2) ?_
  refine ev_iconst (v := 1) dX4_put_26 (by decide) ?_
  refine ev_iadd (v := nI (m + 1)) dX4_put_27 (nI_1 _) ?_
  refine ev_putI dX4_put_28 fl_X4_16 rfl rfl hT.1 ?_
  exact ev_retv dX4_put_31 rfl (Nat.le_refl _) (Nat.le_refl _) ⟨rfl, rfl⟩
theorem am_w5i {n : Int32} (h1 : ¬ n < 1) (h2 : n ≤ 5) : n = 1 ∨ n = 2 ∨ n = 3 ∨ n = 4 ∨ n = 5 := by
  have h1 : 1 ≤ n := Int32.not_lt.mp h1
  obtain ⟨W, hW, rfl⟩ : am_rg n 6 := (am_rgl (c := 5) (n := 6) (by decide)).mp ⟨Int32.le_trans (by decide) h1, h2⟩
  have := (nI_leI (a := 1) (b := W) (by decide) (by omega)).mp h1
  rcases (show W = 1 ∨ W = 2 ∨ W = 3 ∨ W = 4 ∨ W = 5 by omega) with rfl | rfl | rfl | rfl | rfl
  · exact Or.inl rfl
  · exact Or.inr (Or.inl rfl)
  · exact Or.inr (Or.inr (Or.inl rfl))
  · exact Or.inr (Or.inr (Or.inr (Or.inl rfl)))
  · exact Or.inr (Or.inr (Or.inr (Or.inr rfl)))
set_option maxHeartbeats 400000 in
set_option maxRecDepth 100000 in
theorem c_X6_feed (G : am_G) (D : Nat) (A : am_S) (σ : am_M) (hA : wf_A A) (hX : iv_X A σ) (n a b c d e : Int32) : am_Mt G (D + 1) mX6_feed [.ref 32, .int n, .int a, .int b, .int c, .int d, .int e] σ 0 0 (am_qD (sp_feed A n a b c d e) σ) := by
  have b7 := wf_np7 hA
  have b8 := wf_nq8 hA
  have b6 := wf_nt6 hA
  have b61 := wf_nt1 hA
  have b160 := wf_tp160 hA
  have brl := wf_rlt hA
  refine am_of moX6_feed (Nat.le_of_ble_eq_true rfl) ?_
  show am_Ev G mX6_feed (am_R (D + 1) 0 0) 0 0 (am_qD (sp_feed A n a b c d e) σ) 0 [(0, .ref 32), (1, .int n), (2, .int a), (3, .int b), (4, .int c), (5, .int d), (6, .int e)] [] σ 0 0
  refine ev_iload_n dX6_feed_0 rfl rfl ?_
  refine ev_iconst (v := 1) dX6_feed_1 (by decide) ?_
  refine ev_icmp_lt (tgt := 10) dX6_feed_2 (by decide) (fun c1 => ?_) (fun c1 => ?_)
  · skip
    refine ev_bipush (v := (-2)) dX6_feed_10 (by decide) ?_
    refine ev_reti dX6_feed_12 rfl (Nat.zero_le _) (Nat.zero_le _) ?_
    refine am_qDi (B := A) ?_ hX fr_C.rf
    unfold sp_feed
    rw [if_neg]
    intro hz
    rw [Bool.and_eq_true, Bool.and_eq_true, decide_eq_true_eq, decide_eq_true_eq] at hz
    exact absurd hz.1.1 (Int32.not_le.mpr c1)
  · skip
    refine ev_iload_n dX6_feed_5 rfl rfl ?_
    refine ev_iconst (v := 5) dX6_feed_6 (by decide) ?_
    refine ev_icmp_le (tgt := 13) dX6_feed_7 (by decide) (fun c2 => ?_) (fun c2 => ?_)
    · skip
      refine ev_iload_n dX6_feed_13 rfl rfl ?_
      refine ev_callS (as := [.int a]) (st := []) dX6_feed_14 mfX6_isByte lk_X6_97 (c_X6_isByte G D σ a) rfl rfl (Nat.le_of_ble_eq_true rfl) (am_hR (by omega) (by decide)) ⟨Nat.le_refl _, Nat.le_refl _⟩ ?_
      rintro _ _ (⟨hb_a, rfl, rfl⟩ | ⟨hb_a, rfl, rfl⟩)
      · skip
        refine ev_if_eq (tgt := 51) dX6_feed_17 (by decide) (fun c => absurd c (by decide)) (fun _ => ?_)
        refine ev_iload_n dX6_feed_20 rfl rfl ?_
        refine ev_callS (as := [.int b]) (st := []) dX6_feed_21 mfX6_isByte lk_X6_97 (c_X6_isByte G D σ b) rfl rfl (Nat.le_of_ble_eq_true rfl) (am_hR (by omega) (by decide)) ⟨Nat.le_refl _, Nat.le_refl _⟩ ?_
        rintro _ _ (⟨hb_b, rfl, rfl⟩ | ⟨hb_b, rfl, rfl⟩)
        · skip
          refine ev_if_eq (tgt := 51) dX6_feed_24 (by decide) (fun c => absurd c (by decide)) (fun _ => ?_)
          refine ev_iload dX6_feed_27 rfl ?_
          refine ev_callS (as := [.int c]) (st := []) dX6_feed_29 mfX6_isByte lk_X6_97 (c_X6_isByte G D σ c) rfl rfl (Nat.le_of_ble_eq_true rfl) (am_hR (by omega) (by decide)) ⟨Nat.le_refl _, Nat.le_refl _⟩ ?_
          rintro _ _ (⟨hb_c, rfl, rfl⟩ | ⟨hb_c, rfl, rfl⟩)
          · skip
            refine ev_if_eq (tgt := 51) dX6_feed_32 (by decide) (fun c => absurd c (by decide)) (fun _ => ?_)
            refine ev_iload dX6_feed_35 rfl ?_
            refine ev_callS (as := [.int d]) (st := []) dX6_feed_37 mfX6_isByte lk_X6_97 (c_X6_isByte G D σ d) rfl rfl (Nat.le_of_ble_eq_true rfl) (am_hR (by omega) (by decide)) ⟨Nat.le_refl _, Nat.le_refl _⟩ ?_
            rintro _ _ (⟨hb_d, rfl, rfl⟩ | ⟨hb_d, rfl, rfl⟩)
            · skip
              refine ev_if_eq (tgt := 51) dX6_feed_40 (by decide) (fun c => absurd c (by decide)) (fun _ => ?_)
              refine ev_iload dX6_feed_43 rfl ?_
              refine ev_callS (as := [.int e]) (st := []) dX6_feed_45 mfX6_isByte lk_X6_97 (c_X6_isByte G D σ e) rfl rfl (Nat.le_of_ble_eq_true rfl) (am_hR (by omega) (by decide)) ⟨Nat.le_refl _, Nat.le_refl _⟩ ?_
              rintro _ _ (⟨hb_e, rfl, rfl⟩ | ⟨hb_e, rfl, rfl⟩)
              · skip
                refine ev_if_ne (tgt := 54) dX6_feed_48 (by decide) (fun _ => ?_) (fun c => absurd c (by decide))
                rcases am_w5i c1 c2 with rfl | rfl | rfl | rfl | rfl
                · skip
                  refine ev_iload_n dX6_feed_54 rfl rfl ?_
                  refine ev_sipush (v := 160) dX6_feed_55 (by decide) ?_
                  refine ev_aload_n dX6_feed_58 rfl rfl ?_
                  refine ev_getR (b := 38) dX6_feed_59 fl_X6_34 (ly_k hX.ly 32 rfl) (ly_r hX.ly 5 rfl) ?_
                  refine ev_getI (v := nI (s_tp A)) dX6_feed_62 fl_X6_94 (ly_k hX.ly 38 rfl) (hX.f38.trans (wf_tp hA)) ?_
                  refine ev_isub (v := nI (160 - s_tp A)) dX6_feed_65 (pk_sub (a := 160) (b := s_tp A) b160) ?_
                  refine ev_icmp_le (tgt := 72) dX6_feed_66 (by decide) (fun c3 => ?_) (fun c3 => ?_)
                  · skip
                    have c3n : 1 ≤ (160 - s_tp A) := (nI_leI (a := 1) (b := (160 - s_tp A)) (by omega) (by omega)).mp c3
                    refine ev_aload_n dX6_feed_72 rfl rfl ?_
                    refine ev_getR (b := 38) dX6_feed_73 fl_X6_34 (ly_k hX.ly 32 rfl) (ly_r hX.ly 5 rfl) ?_
                    refine ev_iload_n dX6_feed_76 rfl rfl ?_
                    refine ev_callV (as := [.int a]) (st := []) dX6_feed_77 mfX4_put lk_X6_101 (ly_k hX.ly 38 rfl) (by decide) rfl (c_X4_put G D σ ⟨ly_k hX.ly 38 rfl, ly_k hX.ly 39 rfl, ly_k hX.ly 40 rfl, ly_r hX.ly 12 rfl, ly_r hX.ly 13 rfl⟩ (s_tp A + 0) (by omega) (hX.f38.trans (wf_tp hA)) a) rfl rfl (Nat.le_of_ble_eq_true rfl) (am_hR (by omega) (by decide)) ⟨Nat.le_refl _, Nat.le_refl _⟩ ?_
                    rintro _ _ ⟨rfl, rfl⟩
                    refine ev_iload_n dX6_feed_80 rfl rfl ?_
                    refine ev_iconst (v := 1) dX6_feed_81 (by decide) ?_
                    refine ev_icmp_le (tgt := 93) dX6_feed_82 (by decide) (fun _ => ?_) (fun c => absurd (by decide) c)
                    refine ev_iload_n dX6_feed_93 rfl rfl ?_
                    refine ev_iconst (v := 2) dX6_feed_94 (by decide) ?_
                    refine ev_icmp_le (tgt := 107) dX6_feed_95 (by decide) (fun _ => ?_) (fun c => absurd (by decide) c)
                    refine ev_iload_n dX6_feed_107 rfl rfl ?_
                    refine ev_iconst (v := 3) dX6_feed_108 (by decide) ?_
                    refine ev_icmp_le (tgt := 121) dX6_feed_109 (by decide) (fun _ => ?_) (fun c => absurd (by decide) c)
                    refine ev_iload_n dX6_feed_121 rfl rfl ?_
                    refine ev_iconst (v := 4) dX6_feed_122 (by decide) ?_
                    refine ev_icmp_le (tgt := 135) dX6_feed_123 (by decide) (fun _ => ?_) (fun c => absurd (by decide) c)
                    refine ev_aload_n dX6_feed_135 rfl rfl ?_
                    refine ev_getR (b := 38) dX6_feed_136 fl_X6_34 (ly_k ((hX.w39).w38).ly 32 rfl) (ly_r ((hX.w39).w38).ly 5 rfl) ?_
                    refine ev_getI (v := nI (s_tp A + 1)) dX6_feed_139 fl_X6_94 (ly_k ((hX.w39).w38).ly 38 rfl) (((hX.w39).w38).f38.trans am_us) ?_
                    refine ev_reti dX6_feed_142 rfl (Nat.zero_le _) (Nat.zero_le _) ?_
                    have hz : ((decide ((1 : Int32) ≤ 1) && decide ((1 : Int32) ≤ 5)) && (am_in a 256 && (am_in b 256 && (am_in c 256 && (am_in d 256 && am_in e 256))))) = true := by rw [((am_inR (n := 256) (by decide)).mpr hb_a), ((am_inR (n := 256) (by decide)).mpr hb_b), ((am_inR (n := 256) (by decide)).mpr hb_c), ((am_inR (n := 256) (by decide)).mpr hb_d), ((am_inR (n := 256) (by decide)).mpr hb_e)]; rfl
                    refine am_qDi (B := s_fd A (s_fb a b c d e) 1) ?_ ((hX.w39).w38) (fr_C.wr (by omega) (fr_C.wr (by omega) fr_C.rf))
                    unfold sp_feed
                    rw [if_pos hz, show sN (1 : Int32) = 1 by decide, if_neg (show ¬ 160 < s_tp A + 1 by omega)]
                  · skip
                    have c3n : ¬ 1 ≤ (160 - s_tp A) := fun zz => c3 ((nI_leI (a := 1) (b := (160 - s_tp A)) (by omega) (by omega)).mpr zz)
                    refine ev_bipush (v := (-4)) dX6_feed_69 (by decide) ?_
                    refine ev_reti dX6_feed_71 rfl (Nat.zero_le _) (Nat.zero_le _) ?_
                    refine am_qDi (B := A) ?_ hX fr_C.rf
                    have hz : ((decide ((1 : Int32) ≤ 1) && decide ((1 : Int32) ≤ 5)) && (am_in a 256 && (am_in b 256 && (am_in c 256 && (am_in d 256 && am_in e 256))))) = true := by rw [((am_inR (n := 256) (by decide)).mpr hb_a), ((am_inR (n := 256) (by decide)).mpr hb_b), ((am_inR (n := 256) (by decide)).mpr hb_c), ((am_inR (n := 256) (by decide)).mpr hb_d), ((am_inR (n := 256) (by decide)).mpr hb_e)]; rfl
                    unfold sp_feed
                    rw [if_pos hz, show sN (1 : Int32) = 1 by decide, if_pos (show 160 < s_tp A + 1 by omega)]
                · skip
                  refine ev_iload_n dX6_feed_54 rfl rfl ?_
                  refine ev_sipush (v := 160) dX6_feed_55 (by decide) ?_
                  refine ev_aload_n dX6_feed_58 rfl rfl ?_
                  refine ev_getR (b := 38) dX6_feed_59 fl_X6_34 (ly_k hX.ly 32 rfl) (ly_r hX.ly 5 rfl) ?_
                  refine ev_getI (v := nI (s_tp A)) dX6_feed_62 fl_X6_94 (ly_k hX.ly 38 rfl) (hX.f38.trans (wf_tp hA)) ?_
                  refine ev_isub (v := nI (160 - s_tp A)) dX6_feed_65 (pk_sub (a := 160) (b := s_tp A) b160) ?_
                  refine ev_icmp_le (tgt := 72) dX6_feed_66 (by decide) (fun c4 => ?_) (fun c4 => ?_)
                  · skip
                    have c4n : 2 ≤ (160 - s_tp A) := (nI_leI (a := 2) (b := (160 - s_tp A)) (by omega) (by omega)).mp c4
                    refine ev_aload_n dX6_feed_72 rfl rfl ?_
                    refine ev_getR (b := 38) dX6_feed_73 fl_X6_34 (ly_k hX.ly 32 rfl) (ly_r hX.ly 5 rfl) ?_
                    refine ev_iload_n dX6_feed_76 rfl rfl ?_
                    refine ev_callV (as := [.int a]) (st := []) dX6_feed_77 mfX4_put lk_X6_101 (ly_k hX.ly 38 rfl) (by decide) rfl (c_X4_put G D σ ⟨ly_k hX.ly 38 rfl, ly_k hX.ly 39 rfl, ly_k hX.ly 40 rfl, ly_r hX.ly 12 rfl, ly_r hX.ly 13 rfl⟩ (s_tp A + 0) (by omega) (hX.f38.trans (wf_tp hA)) a) rfl rfl (Nat.le_of_ble_eq_true rfl) (am_hR (by omega) (by decide)) ⟨Nat.le_refl _, Nat.le_refl _⟩ ?_
                    rintro _ _ ⟨rfl, rfl⟩
                    refine ev_iload_n dX6_feed_80 rfl rfl ?_
                    refine ev_iconst (v := 1) dX6_feed_81 (by decide) ?_
                    refine ev_icmp_le (tgt := 93) dX6_feed_82 (by decide) (fun c => absurd c (by decide)) (fun _ => ?_)
                    refine ev_aload_n dX6_feed_85 rfl rfl ?_
                    refine ev_getR (b := 38) dX6_feed_86 fl_X6_34 (ly_k ((hX.w39).w38).ly 32 rfl) (ly_r ((hX.w39).w38).ly 5 rfl) ?_
                    refine ev_iload_n dX6_feed_89 rfl rfl ?_
                    refine ev_callV (as := [.int b]) (st := []) dX6_feed_90 mfX4_put lk_X6_101 (ly_k ((hX.w39).w38).ly 38 rfl) (by decide) rfl (c_X4_put G D (am_sI (am_sI σ 39 (s_tp A + 0) a) 38 2 (nI (s_tp A + 1))) ⟨ly_k ((hX.w39).w38).ly 38 rfl, ly_k ((hX.w39).w38).ly 39 rfl, ly_k ((hX.w39).w38).ly 40 rfl, ly_r ((hX.w39).w38).ly 12 rfl, ly_r ((hX.w39).w38).ly 13 rfl⟩ (s_tp A + 1) (by omega) (am_rs) b) rfl rfl (Nat.le_of_ble_eq_true rfl) (am_hR (by omega) (by decide)) ⟨Nat.le_refl _, Nat.le_refl _⟩ ?_
                    rintro _ _ ⟨rfl, rfl⟩
                    refine ev_iload_n dX6_feed_93 rfl rfl ?_
                    refine ev_iconst (v := 2) dX6_feed_94 (by decide) ?_
                    refine ev_icmp_le (tgt := 107) dX6_feed_95 (by decide) (fun _ => ?_) (fun c => absurd (by decide) c)
                    refine ev_iload_n dX6_feed_107 rfl rfl ?_
                    refine ev_iconst (v := 3) dX6_feed_108 (by decide) ?_
                    refine ev_icmp_le (tgt := 121) dX6_feed_109 (by decide) (fun _ => ?_) (fun c => absurd (by decide) c)
                    refine ev_iload_n dX6_feed_121 rfl rfl ?_
                    refine ev_iconst (v := 4) dX6_feed_122 (by decide) ?_
                    refine ev_icmp_le (tgt := 135) dX6_feed_123 (by decide) (fun _ => ?_) (fun c => absurd (by decide) c)
                    refine ev_aload_n dX6_feed_135 rfl rfl ?_
                    refine ev_getR (b := 38) dX6_feed_136 fl_X6_34 (ly_k ((((hX.w39).w38).w39).w38).ly 32 rfl) (ly_r ((((hX.w39).w38).w39).w38).ly 5 rfl) ?_
                    refine ev_getI (v := nI (s_tp A + 2)) dX6_feed_139 fl_X6_94 (ly_k ((((hX.w39).w38).w39).w38).ly 38 rfl) (((((hX.w39).w38).w39).w38).f38.trans am_us) ?_
                    refine ev_reti dX6_feed_142 rfl (Nat.zero_le _) (Nat.zero_le _) ?_
                    have hz : ((decide ((1 : Int32) ≤ 2) && decide ((2 : Int32) ≤ 5)) && (am_in a 256 && (am_in b 256 && (am_in c 256 && (am_in d 256 && am_in e 256))))) = true := by rw [((am_inR (n := 256) (by decide)).mpr hb_a), ((am_inR (n := 256) (by decide)).mpr hb_b), ((am_inR (n := 256) (by decide)).mpr hb_c), ((am_inR (n := 256) (by decide)).mpr hb_d), ((am_inR (n := 256) (by decide)).mpr hb_e)]; rfl
                    refine am_qDi (B := s_fd A (s_fb a b c d e) 2) ?_ ((((hX.w39).w38).w39).w38) (fr_C.wr (by omega) (fr_C.wr (by omega) (fr_C.wr (by omega) (fr_C.wr (by omega) fr_C.rf))))
                    unfold sp_feed
                    rw [if_pos hz, show sN (2 : Int32) = 2 by decide, if_neg (show ¬ 160 < s_tp A + 2 by omega)]
                  · skip
                    have c4n : ¬ 2 ≤ (160 - s_tp A) := fun zz => c4 ((nI_leI (a := 2) (b := (160 - s_tp A)) (by omega) (by omega)).mpr zz)
                    refine ev_bipush (v := (-4)) dX6_feed_69 (by decide) ?_
                    refine ev_reti dX6_feed_71 rfl (Nat.zero_le _) (Nat.zero_le _) ?_
                    refine am_qDi (B := A) ?_ hX fr_C.rf
                    have hz : ((decide ((1 : Int32) ≤ 2) && decide ((2 : Int32) ≤ 5)) && (am_in a 256 && (am_in b 256 && (am_in c 256 && (am_in d 256 && am_in e 256))))) = true := by rw [((am_inR (n := 256) (by decide)).mpr hb_a), ((am_inR (n := 256) (by decide)).mpr hb_b), ((am_inR (n := 256) (by decide)).mpr hb_c), ((am_inR (n := 256) (by decide)).mpr hb_d), ((am_inR (n := 256) (by decide)).mpr hb_e)]; rfl
                    unfold sp_feed
                    rw [if_pos hz, show sN (2 : Int32) = 2 by decide, if_pos (show 160 < s_tp A + 2 by omega)]
                · skip
                  refine ev_iload_n dX6_feed_54 rfl rfl ?_
                  refine ev_sipush (v := 160) dX6_feed_55 (by decide) ?_
                  refine ev_aload_n dX6_feed_58 rfl rfl ?_
                  refine ev_getR (b := 38) dX6_feed_59 fl_X6_34 (ly_k hX.ly 32 rfl) (ly_r hX.ly 5 rfl) ?_
                  refine ev_getI (v := nI (s_tp A)) dX6_feed_62 fl_X6_94 (ly_k hX.ly 38 rfl) (hX.f38.trans (wf_tp hA)) ?_
                  refine ev_isub (v := nI (160 - s_tp A)) dX6_feed_65 (pk_sub (a := 160) (b := s_tp A) b160) ?_
                  refine ev_icmp_le (tgt := 72) dX6_feed_66 (by decide) (fun c5 => ?_) (fun c5 => ?_)
                  · skip
                    have c5n : 3 ≤ (160 - s_tp A) := (nI_leI (a := 3) (b := (160 - s_tp A)) (by omega) (by omega)).mp c5
                    refine ev_aload_n dX6_feed_72 rfl rfl ?_
                    refine ev_getR (b := 38) dX6_feed_73 fl_X6_34 (ly_k hX.ly 32 rfl) (ly_r hX.ly 5 rfl) ?_
                    refine ev_iload_n dX6_feed_76 rfl rfl ?_
                    refine ev_callV (as := [.int a]) (st := []) dX6_feed_77 mfX4_put lk_X6_101 (ly_k hX.ly 38 rfl) (by decide) rfl (c_X4_put G D σ ⟨ly_k hX.ly 38 rfl, ly_k hX.ly 39 rfl, ly_k hX.ly 40 rfl, ly_r hX.ly 12 rfl, ly_r hX.ly 13 rfl⟩ (s_tp A + 0) (by omega) (hX.f38.trans (wf_tp hA)) a) rfl rfl (Nat.le_of_ble_eq_true rfl) (am_hR (by omega) (by decide)) ⟨Nat.le_refl _, Nat.le_refl _⟩ ?_
                    rintro _ _ ⟨rfl, rfl⟩
                    refine ev_iload_n dX6_feed_80 rfl rfl ?_
                    refine ev_iconst (v := 1) dX6_feed_81 (by decide) ?_
                    refine ev_icmp_le (tgt := 93) dX6_feed_82 (by decide) (fun c => absurd c (by decide)) (fun _ => ?_)
                    refine ev_aload_n dX6_feed_85 rfl rfl ?_
                    refine ev_getR (b := 38) dX6_feed_86 fl_X6_34 (ly_k ((hX.w39).w38).ly 32 rfl) (ly_r ((hX.w39).w38).ly 5 rfl) ?_
                    refine ev_iload_n dX6_feed_89 rfl rfl ?_
                    refine ev_callV (as := [.int b]) (st := []) dX6_feed_90 mfX4_put lk_X6_101 (ly_k ((hX.w39).w38).ly 38 rfl) (by decide) rfl (c_X4_put G D (am_sI (am_sI σ 39 (s_tp A + 0) a) 38 2 (nI (s_tp A + 1))) ⟨ly_k ((hX.w39).w38).ly 38 rfl, ly_k ((hX.w39).w38).ly 39 rfl, ly_k ((hX.w39).w38).ly 40 rfl, ly_r ((hX.w39).w38).ly 12 rfl, ly_r ((hX.w39).w38).ly 13 rfl⟩ (s_tp A + 1) (by omega) (am_rs) b) rfl rfl (Nat.le_of_ble_eq_true rfl) (am_hR (by omega) (by decide)) ⟨Nat.le_refl _, Nat.le_refl _⟩ ?_
                    rintro _ _ ⟨rfl, rfl⟩
                    refine ev_iload_n dX6_feed_93 rfl rfl ?_
                    refine ev_iconst (v := 2) dX6_feed_94 (by decide) ?_
                    refine ev_icmp_le (tgt := 107) dX6_feed_95 (by decide) (fun c => absurd c (by decide)) (fun _ => ?_)
                    refine ev_aload_n dX6_feed_98 rfl rfl ?_
                    refine ev_getR (b := 38) dX6_feed_99 fl_X6_34 (ly_k ((((hX.w39).w38).w39).w38).ly 32 rfl) (ly_r ((((hX.w39).w38).w39).w38).ly 5 rfl) ?_
                    refine ev_iload dX6_feed_102 rfl ?_
                    refine ev_callV (as := [.int c]) (st := []) dX6_feed_104 mfX4_put lk_X6_101 (ly_k ((((hX.w39).w38).w39).w38).ly 38 rfl) (by decide) rfl (c_X4_put G D (am_sI (am_sI (am_sI (am_sI σ 39 (s_tp A + 0) a) 38 2 (nI (s_tp A + 1))) 39 (s_tp A + 1) b) 38 2 (nI (s_tp A + 2))) ⟨ly_k ((((hX.w39).w38).w39).w38).ly 38 rfl, ly_k ((((hX.w39).w38).w39).w38).ly 39 rfl, ly_k ((((hX.w39).w38).w39).w38).ly 40 rfl, ly_r ((((hX.w39).w38).w39).w38).ly 12 rfl, ly_r ((((hX.w39).w38).w39).w38).ly 13 rfl⟩ (s_tp A + 2) (by omega) (am_rs) c) rfl rfl (Nat.le_of_ble_eq_true rfl) (am_hR (by omega) (by decide)) ⟨Nat.le_refl _, Nat.le_refl _⟩ ?_
                    rintro _ _ ⟨rfl, rfl⟩
                    refine ev_iload_n dX6_feed_107 rfl rfl ?_
                    refine ev_iconst (v := 3) dX6_feed_108 (by decide) ?_
                    refine ev_icmp_le (tgt := 121) dX6_feed_109 (by decide) (fun _ => ?_) (fun c => absurd (by decide) c)
                    refine ev_iload_n dX6_feed_121 rfl rfl ?_
                    refine ev_iconst (v := 4) dX6_feed_122 (by decide) ?_
                    refine ev_icmp_le (tgt := 135) dX6_feed_123 (by decide) (fun _ => ?_) (fun c => absurd (by decide) c)
                    refine ev_aload_n dX6_feed_135 rfl rfl ?_
                    refine ev_getR (b := 38) dX6_feed_136 fl_X6_34 (ly_k ((((((hX.w39).w38).w39).w38).w39).w38).ly 32 rfl) (ly_r ((((((hX.w39).w38).w39).w38).w39).w38).ly 5 rfl) ?_
                    refine ev_getI (v := nI (s_tp A + 3)) dX6_feed_139 fl_X6_94 (ly_k ((((((hX.w39).w38).w39).w38).w39).w38).ly 38 rfl) (((((((hX.w39).w38).w39).w38).w39).w38).f38.trans am_us) ?_
                    refine ev_reti dX6_feed_142 rfl (Nat.zero_le _) (Nat.zero_le _) ?_
                    have hz : ((decide ((1 : Int32) ≤ 3) && decide ((3 : Int32) ≤ 5)) && (am_in a 256 && (am_in b 256 && (am_in c 256 && (am_in d 256 && am_in e 256))))) = true := by rw [((am_inR (n := 256) (by decide)).mpr hb_a), ((am_inR (n := 256) (by decide)).mpr hb_b), ((am_inR (n := 256) (by decide)).mpr hb_c), ((am_inR (n := 256) (by decide)).mpr hb_d), ((am_inR (n := 256) (by decide)).mpr hb_e)]; rfl
                    refine am_qDi (B := s_fd A (s_fb a b c d e) 3) ?_ ((((((hX.w39).w38).w39).w38).w39).w38) (fr_C.wr (by omega) (fr_C.wr (by omega) (fr_C.wr (by omega) (fr_C.wr (by omega) (fr_C.wr (by omega) (fr_C.wr (by omega) fr_C.rf))))))
                    unfold sp_feed
                    rw [if_pos hz, show sN (3 : Int32) = 3 by decide, if_neg (show ¬ 160 < s_tp A + 3 by omega)]
                  · skip
                    have c5n : ¬ 3 ≤ (160 - s_tp A) := fun zz => c5 ((nI_leI (a := 3) (b := (160 - s_tp A)) (by omega) (by omega)).mpr zz)
                    refine ev_bipush (v := (-4)) dX6_feed_69 (by decide) ?_
                    refine ev_reti dX6_feed_71 rfl (Nat.zero_le _) (Nat.zero_le _) ?_
                    refine am_qDi (B := A) ?_ hX fr_C.rf
                    have hz : ((decide ((1 : Int32) ≤ 3) && decide ((3 : Int32) ≤ 5)) && (am_in a 256 && (am_in b 256 && (am_in c 256 && (am_in d 256 && am_in e 256))))) = true := by rw [((am_inR (n := 256) (by decide)).mpr hb_a), ((am_inR (n := 256) (by decide)).mpr hb_b), ((am_inR (n := 256) (by decide)).mpr hb_c), ((am_inR (n := 256) (by decide)).mpr hb_d), ((am_inR (n := 256) (by decide)).mpr hb_e)]; rfl
                    unfold sp_feed
                    rw [if_pos hz, show sN (3 : Int32) = 3 by decide, if_pos (show 160 < s_tp A + 3 by omega)]
                · skip
                  refine ev_iload_n dX6_feed_54 rfl rfl ?_
                  refine ev_sipush (v := 160) dX6_feed_55 (by decide) ?_
                  refine ev_aload_n dX6_feed_58 rfl rfl ?_
                  refine ev_getR (b := 38) dX6_feed_59 fl_X6_34 (ly_k hX.ly 32 rfl) (ly_r hX.ly 5 rfl) ?_
                  refine ev_getI (v := nI (s_tp A)) dX6_feed_62 fl_X6_94 (ly_k hX.ly 38 rfl) (hX.f38.trans (wf_tp hA)) ?_
                  refine ev_isub (v := nI (160 - s_tp A)) dX6_feed_65 (pk_sub (a := 160) (b := s_tp A) b160) ?_
                  refine ev_icmp_le (tgt := 72) dX6_feed_66 (by decide) (fun c6 => ?_) (fun c6 => ?_)
                  · skip
                    have c6n : 4 ≤ (160 - s_tp A) := (nI_leI (a := 4) (b := (160 - s_tp A)) (by omega) (by omega)).mp c6
                    refine ev_aload_n dX6_feed_72 rfl rfl ?_
                    refine ev_getR (b := 38) dX6_feed_73 fl_X6_34 (ly_k hX.ly 32 rfl) (ly_r hX.ly 5 rfl) ?_
                    refine ev_iload_n dX6_feed_76 rfl rfl ?_
                    refine ev_callV (as := [.int a]) (st := []) dX6_feed_77 mfX4_put lk_X6_101 (ly_k hX.ly 38 rfl) (by decide) rfl (c_X4_put G D σ ⟨ly_k hX.ly 38 rfl, ly_k hX.ly 39 rfl, ly_k hX.ly 40 rfl, ly_r hX.ly 12 rfl, ly_r hX.ly 13 rfl⟩ (s_tp A + 0) (by omega) (hX.f38.trans (wf_tp hA)) a) rfl rfl (Nat.le_of_ble_eq_true rfl) (am_hR (by omega) (by decide)) ⟨Nat.le_refl _, Nat.le_refl _⟩ ?_
                    rintro _ _ ⟨rfl, rfl⟩
                    refine ev_iload_n dX6_feed_80 rfl rfl ?_
                    refine ev_iconst (v := 1) dX6_feed_81 (by decide) ?_
                    refine ev_icmp_le (tgt := 93) dX6_feed_82 (by decide) (fun c => absurd c (by decide)) (fun _ => ?_)
                    refine ev_aload_n dX6_feed_85 rfl rfl ?_
                    refine ev_getR (b := 38) dX6_feed_86 fl_X6_34 (ly_k ((hX.w39).w38).ly 32 rfl) (ly_r ((hX.w39).w38).ly 5 rfl) ?_
                    refine ev_iload_n dX6_feed_89 rfl rfl ?_
                    refine ev_callV (as := [.int b]) (st := []) dX6_feed_90 mfX4_put lk_X6_101 (ly_k ((hX.w39).w38).ly 38 rfl) (by decide) rfl (c_X4_put G D (am_sI (am_sI σ 39 (s_tp A + 0) a) 38 2 (nI (s_tp A + 1))) ⟨ly_k ((hX.w39).w38).ly 38 rfl, ly_k ((hX.w39).w38).ly 39 rfl, ly_k ((hX.w39).w38).ly 40 rfl, ly_r ((hX.w39).w38).ly 12 rfl, ly_r ((hX.w39).w38).ly 13 rfl⟩ (s_tp A + 1) (by omega) (am_rs) b) rfl rfl (Nat.le_of_ble_eq_true rfl) (am_hR (by omega) (by decide)) ⟨Nat.le_refl _, Nat.le_refl _⟩ ?_
                    rintro _ _ ⟨rfl, rfl⟩
                    refine ev_iload_n dX6_feed_93 rfl rfl ?_
                    refine ev_iconst (v := 2) dX6_feed_94 (by decide) ?_
                    refine ev_icmp_le (tgt := 107) dX6_feed_95 (by decide) (fun c => absurd c (by decide)) (fun _ => ?_)
                    refine ev_aload_n dX6_feed_98 rfl rfl ?_
                    refine ev_getR (b := 38) dX6_feed_99 fl_X6_34 (ly_k ((((hX.w39).w38).w39).w38).ly 32 rfl) (ly_r ((((hX.w39).w38).w39).w38).ly 5 rfl) ?_
                    refine ev_iload dX6_feed_102 rfl ?_
                    refine ev_callV (as := [.int c]) (st := []) dX6_feed_104 mfX4_put lk_X6_101 (ly_k ((((hX.w39).w38).w39).w38).ly 38 rfl) (by decide) rfl (c_X4_put G D (am_sI (am_sI (am_sI (am_sI σ 39 (s_tp A + 0) a) 38 2 (nI (s_tp A + 1))) 39 (s_tp A + 1) b) 38 2 (nI (s_tp A + 2))) ⟨ly_k ((((hX.w39).w38).w39).w38).ly 38 rfl, ly_k ((((hX.w39).w38).w39).w38).ly 39 rfl, ly_k ((((hX.w39).w38).w39).w38).ly 40 rfl, ly_r ((((hX.w39).w38).w39).w38).ly 12 rfl, ly_r ((((hX.w39).w38).w39).w38).ly 13 rfl⟩ (s_tp A + 2) (by omega) (am_rs) c) rfl rfl (Nat.le_of_ble_eq_true rfl) (am_hR (by omega) (by decide)) ⟨Nat.le_refl _, Nat.le_refl _⟩ ?_
                    rintro _ _ ⟨rfl, rfl⟩
                    refine ev_iload_n dX6_feed_107 rfl rfl ?_
                    refine ev_iconst (v := 3) dX6_feed_108 (by decide) ?_
                    refine ev_icmp_le (tgt := 121) dX6_feed_109 (by decide) (fun c => absurd c (by decide)) (fun _ => ?_)
                    refine ev_aload_n dX6_feed_112 rfl rfl ?_
                    refine ev_getR (b := 38) dX6_feed_113 fl_X6_34 (ly_k ((((((hX.w39).w38).w39).w38).w39).w38).ly 32 rfl) (ly_r ((((((hX.w39).w38).w39).w38).w39).w38).ly 5 rfl) ?_
                    refine ev_iload dX6_feed_116 rfl ?_
                    refine ev_callV (as := [.int d]) (st := []) dX6_feed_118 mfX4_put lk_X6_101 (ly_k ((((((hX.w39).w38).w39).w38).w39).w38).ly 38 rfl) (by decide) rfl (c_X4_put G D (am_sI (am_sI (am_sI (am_sI (am_sI (am_sI σ 39 (s_tp A + 0) a) 38 2 (nI (s_tp A + 1))) 39 (s_tp A + 1) b) 38 2 (nI (s_tp A + 2))) 39 (s_tp A + 2) c) 38 2 (nI (s_tp A + 3))) ⟨ly_k ((((((hX.w39).w38).w39).w38).w39).w38).ly 38 rfl, ly_k ((((((hX.w39).w38).w39).w38).w39).w38).ly 39 rfl, ly_k ((((((hX.w39).w38).w39).w38).w39).w38).ly 40 rfl, ly_r ((((((hX.w39).w38).w39).w38).w39).w38).ly 12 rfl, ly_r ((((((hX.w39).w38).w39).w38).w39).w38).ly 13 rfl⟩ (s_tp A + 3) (by omega) (am_rs) d) rfl rfl (Nat.le_of_ble_eq_true rfl) (am_hR (by omega) (by decide)) ⟨Nat.le_refl _, Nat.le_refl _⟩ ?_
                    rintro _ _ ⟨rfl, rfl⟩
                    refine ev_iload_n dX6_feed_121 rfl rfl ?_
                    refine ev_iconst (v := 4) dX6_feed_122 (by decide) ?_
                    refine ev_icmp_le (tgt := 135) dX6_feed_123 (by decide) (fun _ => ?_) (fun c => absurd (by decide) c)
                    refine ev_aload_n dX6_feed_135 rfl rfl ?_
                    refine ev_getR (b := 38) dX6_feed_136 fl_X6_34 (ly_k ((((((((hX.w39).w38).w39).w38).w39).w38).w39).w38).ly 32 rfl) (ly_r ((((((((hX.w39).w38).w39).w38).w39).w38).w39).w38).ly 5 rfl) ?_
                    refine ev_getI (v := nI (s_tp A + 4)) dX6_feed_139 fl_X6_94 (ly_k ((((((((hX.w39).w38).w39).w38).w39).w38).w39).w38).ly 38 rfl) (((((((((hX.w39).w38).w39).w38).w39).w38).w39).w38).f38.trans am_us) ?_
                    refine ev_reti dX6_feed_142 rfl (Nat.zero_le _) (Nat.zero_le _) ?_
                    have hz : ((decide ((1 : Int32) ≤ 4) && decide ((4 : Int32) ≤ 5)) && (am_in a 256 && (am_in b 256 && (am_in c 256 && (am_in d 256 && am_in e 256))))) = true := by rw [((am_inR (n := 256) (by decide)).mpr hb_a), ((am_inR (n := 256) (by decide)).mpr hb_b), ((am_inR (n := 256) (by decide)).mpr hb_c), ((am_inR (n := 256) (by decide)).mpr hb_d), ((am_inR (n := 256) (by decide)).mpr hb_e)]; rfl
                    refine am_qDi (B := s_fd A (s_fb a b c d e) 4) ?_ ((((((((hX.w39).w38).w39).w38).w39).w38).w39).w38) (fr_C.wr (by omega) (fr_C.wr (by omega) (fr_C.wr (by omega) (fr_C.wr (by omega) (fr_C.wr (by omega) (fr_C.wr (by omega) (fr_C.wr (by omega) (fr_C.wr (by omega) fr_C.rf))))))))
                    unfold sp_feed
                    rw [if_pos hz, show sN (4 : Int32) = 4 by decide, if_neg (show ¬ 160 < s_tp A + 4 by omega)]
                  · skip
                    have c6n : ¬ 4 ≤ (160 - s_tp A) := fun zz => c6 ((nI_leI (a := 4) (b := (160 - s_tp A)) (by omega) (by omega)).mpr zz)
                    refine ev_bipush (v := (-4)) dX6_feed_69 (by decide) ?_
                    refine ev_reti dX6_feed_71 rfl (Nat.zero_le _) (Nat.zero_le _) ?_
                    refine am_qDi (B := A) ?_ hX fr_C.rf
                    have hz : ((decide ((1 : Int32) ≤ 4) && decide ((4 : Int32) ≤ 5)) && (am_in a 256 && (am_in b 256 && (am_in c 256 && (am_in d 256 && am_in e 256))))) = true := by rw [((am_inR (n := 256) (by decide)).mpr hb_a), ((am_inR (n := 256) (by decide)).mpr hb_b), ((am_inR (n := 256) (by decide)).mpr hb_c), ((am_inR (n := 256) (by decide)).mpr hb_d), ((am_inR (n := 256) (by decide)).mpr hb_e)]; rfl
                    unfold sp_feed
                    rw [if_pos hz, show sN (4 : Int32) = 4 by decide, if_pos (show 160 < s_tp A + 4 by omega)]
                · skip
                  refine ev_iload_n dX6_feed_54 rfl rfl ?_
                  refine ev_sipush (v := 160) dX6_feed_55 (by decide) ?_
                  refine ev_aload_n dX6_feed_58 rfl rfl ?_
                  refine ev_getR (b := 38) dX6_feed_59 fl_X6_34 (ly_k hX.ly 32 rfl) (ly_r hX.ly 5 rfl) ?_
                  refine ev_getI (v := nI (s_tp A)) dX6_feed_62 fl_X6_94 (ly_k hX.ly 38 rfl) (hX.f38.trans (wf_tp hA)) ?_
                  refine ev_isub (v := nI (160 - s_tp A)) dX6_feed_65 (pk_sub (a := 160) (b := s_tp A) b160) ?_
                  refine ev_icmp_le (tgt := 72) dX6_feed_66 (by decide) (fun c7 => ?_) (fun c7 => ?_)
                  · skip
                    have c7n : 5 ≤ (160 - s_tp A) := (nI_leI (a := 5) (b := (160 - s_tp A)) (by omega) (by omega)).mp c7
                    refine ev_aload_n dX6_feed_72 rfl rfl ?_
                    refine ev_getR (b := 38) dX6_feed_73 fl_X6_34 (ly_k hX.ly 32 rfl) (ly_r hX.ly 5 rfl) ?_
                    refine ev_iload_n dX6_feed_76 rfl rfl ?_
                    refine ev_callV (as := [.int a]) (st := []) dX6_feed_77 mfX4_put lk_X6_101 (ly_k hX.ly 38 rfl) (by decide) rfl (c_X4_put G D σ ⟨ly_k hX.ly 38 rfl, ly_k hX.ly 39 rfl, ly_k hX.ly 40 rfl, ly_r hX.ly 12 rfl, ly_r hX.ly 13 rfl⟩ (s_tp A + 0) (by omega) (hX.f38.trans (wf_tp hA)) a) rfl rfl (Nat.le_of_ble_eq_true rfl) (am_hR (by omega) (by decide)) ⟨Nat.le_refl _, Nat.le_refl _⟩ ?_
                    rintro _ _ ⟨rfl, rfl⟩
                    refine ev_iload_n dX6_feed_80 rfl rfl ?_
                    refine ev_iconst (v := 1) dX6_feed_81 (by decide) ?_
                    refine ev_icmp_le (tgt := 93) dX6_feed_82 (by decide) (fun c => absurd c (by decide)) (fun _ => ?_)
                    refine ev_aload_n dX6_feed_85 rfl rfl ?_
                    refine ev_getR (b := 38) dX6_feed_86 fl_X6_34 (ly_k ((hX.w39).w38).ly 32 rfl) (ly_r ((hX.w39).w38).ly 5 rfl) ?_
                    refine ev_iload_n dX6_feed_89 rfl rfl ?_
                    refine ev_callV (as := [.int b]) (st := []) dX6_feed_90 mfX4_put lk_X6_101 (ly_k ((hX.w39).w38).ly 38 rfl) (by decide) rfl (c_X4_put G D (am_sI (am_sI σ 39 (s_tp A + 0) a) 38 2 (nI (s_tp A + 1))) ⟨ly_k ((hX.w39).w38).ly 38 rfl, ly_k ((hX.w39).w38).ly 39 rfl, ly_k ((hX.w39).w38).ly 40 rfl, ly_r ((hX.w39).w38).ly 12 rfl, ly_r ((hX.w39).w38).ly 13 rfl⟩ (s_tp A + 1) (by omega) (am_rs) b) rfl rfl (Nat.le_of_ble_eq_true rfl) (am_hR (by omega) (by decide)) ⟨Nat.le_refl _, Nat.le_refl _⟩ ?_
                    rintro _ _ ⟨rfl, rfl⟩
                    refine ev_iload_n dX6_feed_93 rfl rfl ?_
                    refine ev_iconst (v := 2) dX6_feed_94 (by decide) ?_
                    refine ev_icmp_le (tgt := 107) dX6_feed_95 (by decide) (fun c => absurd c (by decide)) (fun _ => ?_)
                    refine ev_aload_n dX6_feed_98 rfl rfl ?_
                    refine ev_getR (b := 38) dX6_feed_99 fl_X6_34 (ly_k ((((hX.w39).w38).w39).w38).ly 32 rfl) (ly_r ((((hX.w39).w38).w39).w38).ly 5 rfl) ?_
                    refine ev_iload dX6_feed_102 rfl ?_
                    refine ev_callV (as := [.int c]) (st := []) dX6_feed_104 mfX4_put lk_X6_101 (ly_k ((((hX.w39).w38).w39).w38).ly 38 rfl) (by decide) rfl (c_X4_put G D (am_sI (am_sI (am_sI (am_sI σ 39 (s_tp A + 0) a) 38 2 (nI (s_tp A + 1))) 39 (s_tp A + 1) b) 38 2 (nI (s_tp A + 2))) ⟨ly_k ((((hX.w39).w38).w39).w38).ly 38 rfl, ly_k ((((hX.w39).w38).w39).w38).ly 39 rfl, ly_k ((((hX.w39).w38).w39).w38).ly 40 rfl, ly_r ((((hX.w39).w38).w39).w38).ly 12 rfl, ly_r ((((hX.w39).w38).w39).w38).ly 13 rfl⟩ (s_tp A + 2) (by omega) (am_rs) c) rfl rfl (Nat.le_of_ble_eq_true rfl) (am_hR (by omega) (by decide)) ⟨Nat.le_refl _, Nat.le_refl _⟩ ?_
                    rintro _ _ ⟨rfl, rfl⟩
                    refine ev_iload_n dX6_feed_107 rfl rfl ?_
                    refine ev_iconst (v := 3) dX6_feed_108 (by decide) ?_
                    refine ev_icmp_le (tgt := 121) dX6_feed_109 (by decide) (fun c => absurd c (by decide)) (fun _ => ?_)
                    refine ev_aload_n dX6_feed_112 rfl rfl ?_
                    refine ev_getR (b := 38) dX6_feed_113 fl_X6_34 (ly_k ((((((hX.w39).w38).w39).w38).w39).w38).ly 32 rfl) (ly_r ((((((hX.w39).w38).w39).w38).w39).w38).ly 5 rfl) ?_
                    refine ev_iload dX6_feed_116 rfl ?_
                    refine ev_callV (as := [.int d]) (st := []) dX6_feed_118 mfX4_put lk_X6_101 (ly_k ((((((hX.w39).w38).w39).w38).w39).w38).ly 38 rfl) (by decide) rfl (c_X4_put G D (am_sI (am_sI (am_sI (am_sI (am_sI (am_sI σ 39 (s_tp A + 0) a) 38 2 (nI (s_tp A + 1))) 39 (s_tp A + 1) b) 38 2 (nI (s_tp A + 2))) 39 (s_tp A + 2) c) 38 2 (nI (s_tp A + 3))) ⟨ly_k ((((((hX.w39).w38).w39).w38).w39).w38).ly 38 rfl, ly_k ((((((hX.w39).w38).w39).w38).w39).w38).ly 39 rfl, ly_k ((((((hX.w39).w38).w39).w38).w39).w38).ly 40 rfl, ly_r ((((((hX.w39).w38).w39).w38).w39).w38).ly 12 rfl, ly_r ((((((hX.w39).w38).w39).w38).w39).w38).ly 13 rfl⟩ (s_tp A + 3) (by omega) (am_rs) d) rfl rfl (Nat.le_of_ble_eq_true rfl) (am_hR (by omega) (by decide)) ⟨Nat.le_refl _, Nat.le_refl _⟩ ?_
                    rintro _ _ ⟨rfl, rfl⟩
                    refine ev_iload_n dX6_feed_121 rfl rfl ?_
                    refine ev_iconst (v := 4) dX6_feed_122 (by decide) ?_
                    refine ev_icmp_le (tgt := 135) dX6_feed_123 (by decide) (fun c => absurd c (by decide)) (fun _ => ?_)
                    refine ev_aload_n dX6_feed_126 rfl rfl ?_
                    refine ev_getR (b := 38) dX6_feed_127 fl_X6_34 (ly_k ((((((((hX.w39).w38).w39).w38).w39).w38).w39).w38).ly 32 rfl) (ly_r ((((((((hX.w39).w38).w39).w38).w39).w38).w39).w38).ly 5 rfl) ?_
                    refine ev_iload dX6_feed_130 rfl ?_
                    refine ev_callV (as := [.int e]) (st := []) dX6_feed_132 mfX4_put lk_X6_101 (ly_k ((((((((hX.w39).w38).w39).w38).w39).w38).w39).w38).ly 38 rfl) (by decide) rfl (c_X4_put G D (am_sI (am_sI (am_sI (am_sI (am_sI (am_sI (am_sI (am_sI σ 39 (s_tp A + 0) a) 38 2 (nI (s_tp A + 1))) 39 (s_tp A + 1) b) 38 2 (nI (s_tp A + 2))) 39 (s_tp A + 2) c) 38 2 (nI (s_tp A + 3))) 39 (s_tp A + 3) d) 38 2 (nI (s_tp A + 4))) ⟨ly_k ((((((((hX.w39).w38).w39).w38).w39).w38).w39).w38).ly 38 rfl, ly_k ((((((((hX.w39).w38).w39).w38).w39).w38).w39).w38).ly 39 rfl, ly_k ((((((((hX.w39).w38).w39).w38).w39).w38).w39).w38).ly 40 rfl, ly_r ((((((((hX.w39).w38).w39).w38).w39).w38).w39).w38).ly 12 rfl, ly_r ((((((((hX.w39).w38).w39).w38).w39).w38).w39).w38).ly 13 rfl⟩ (s_tp A + 4) (by omega) (am_rs) e) rfl rfl (Nat.le_of_ble_eq_true rfl) (am_hR (by omega) (by decide)) ⟨Nat.le_refl _, Nat.le_refl _⟩ ?_
                    rintro _ _ ⟨rfl, rfl⟩
                    refine ev_aload_n dX6_feed_135 rfl rfl ?_
                    refine ev_getR (b := 38) dX6_feed_136 fl_X6_34 (ly_k ((((((((((hX.w39).w38).w39).w38).w39).w38).w39).w38).w39).w38).ly 32 rfl) (ly_r ((((((((((hX.w39).w38).w39).w38).w39).w38).w39).w38).w39).w38).ly 5 rfl) ?_
                    refine ev_getI (v := nI (s_tp A + 5)) dX6_feed_139 fl_X6_94 (ly_k ((((((((((hX.w39).w38).w39).w38).w39).w38).w39).w38).w39).w38).ly 38 rfl) (((((((((((hX.w39).w38).w39).w38).w39).w38).w39).w38).w39).w38).f38.trans am_us) ?_
                    refine ev_reti dX6_feed_142 rfl (Nat.zero_le _) (Nat.zero_le _) ?_
                    have hz : ((decide ((1 : Int32) ≤ 5) && decide ((5 : Int32) ≤ 5)) && (am_in a 256 && (am_in b 256 && (am_in c 256 && (am_in d 256 && am_in e 256))))) = true := by rw [((am_inR (n := 256) (by decide)).mpr hb_a), ((am_inR (n := 256) (by decide)).mpr hb_b), ((am_inR (n := 256) (by decide)).mpr hb_c), ((am_inR (n := 256) (by decide)).mpr hb_d), ((am_inR (n := 256) (by decide)).mpr hb_e)]; rfl
                    refine am_qDi (B := s_fd A (s_fb a b c d e) 5) ?_ ((((((((((hX.w39).w38).w39).w38).w39).w38).w39).w38).w39).w38) (fr_C.wr (by omega) (fr_C.wr (by omega) (fr_C.wr (by omega) (fr_C.wr (by omega) (fr_C.wr (by omega) (fr_C.wr (by omega) (fr_C.wr (by omega) (fr_C.wr (by omega) (fr_C.wr (by omega) (fr_C.wr (by omega) fr_C.rf))))))))))
                    unfold sp_feed
                    rw [if_pos hz, show sN (5 : Int32) = 5 by decide, if_neg (show ¬ 160 < s_tp A + 5 by omega)]
                  · skip
                    have c7n : ¬ 5 ≤ (160 - s_tp A) := fun zz => c7 ((nI_leI (a := 5) (b := (160 - s_tp A)) (by omega) (by omega)).mpr zz)
                    refine ev_bipush (v := (-4)) dX6_feed_69 (by decide) ?_
                    refine ev_reti dX6_feed_71 rfl (Nat.zero_le _) (Nat.zero_le _) ?_
                    refine am_qDi (B := A) ?_ hX fr_C.rf
                    have hz : ((decide ((1 : Int32) ≤ 5) && decide ((5 : Int32) ≤ 5)) && (am_in a 256 && (am_in b 256 && (am_in c 256 && (am_in d 256 && am_in e 256))))) = true := by rw [((am_inR (n := 256) (by decide)).mpr hb_a), ((am_inR (n := 256) (by decide)).mpr hb_b), ((am_inR (n := 256) (by decide)).mpr hb_c), ((am_inR (n := 256) (by decide)).mpr hb_d), ((am_inR (n := 256) (by decide)).mpr hb_e)]; rfl
                    unfold sp_feed
                    rw [if_pos hz, show sN (5 : Int32) = 5 by decide, if_pos (show 160 < s_tp A + 5 by omega)]
              · skip
                refine ev_if_ne (tgt := 54) dX6_feed_48 (by decide) (fun c => absurd (by decide) c) (fun _ => ?_)
                refine ev_bipush (v := (-2)) dX6_feed_51 (by decide) ?_
                refine ev_reti dX6_feed_53 rfl (Nat.zero_le _) (Nat.zero_le _) ?_
                refine am_qDi (B := A) ?_ hX fr_C.rf
                have hz := (am_inF (n := 256) (by decide) hb_e)
                simp [sp_feed, hz]
            · skip
              refine ev_if_eq (tgt := 51) dX6_feed_40 (by decide) (fun _ => ?_) (fun c => absurd (by decide) c)
              refine ev_bipush (v := (-2)) dX6_feed_51 (by decide) ?_
              refine ev_reti dX6_feed_53 rfl (Nat.zero_le _) (Nat.zero_le _) ?_
              refine am_qDi (B := A) ?_ hX fr_C.rf
              have hz := (am_inF (n := 256) (by decide) hb_d)
              simp [sp_feed, hz]
          · skip
            refine ev_if_eq (tgt := 51) dX6_feed_32 (by decide) (fun _ => ?_) (fun c => absurd (by decide) c)
            refine ev_bipush (v := (-2)) dX6_feed_51 (by decide) ?_
            refine ev_reti dX6_feed_53 rfl (Nat.zero_le _) (Nat.zero_le _) ?_
            refine am_qDi (B := A) ?_ hX fr_C.rf
            have hz := (am_inF (n := 256) (by decide) hb_c)
            simp [sp_feed, hz]
        · skip
          refine ev_if_eq (tgt := 51) dX6_feed_24 (by decide) (fun _ => ?_) (fun c => absurd (by decide) c)
          refine ev_bipush (v := (-2)) dX6_feed_51 (by decide) ?_
          refine ev_reti dX6_feed_53 rfl (Nat.zero_le _) (Nat.zero_le _) ?_
          refine am_qDi (B := A) ?_ hX fr_C.rf
          have hz := (am_inF (n := 256) (by decide) hb_b)
          simp [sp_feed, hz]
      · skip
        refine ev_if_eq (tgt := 51) dX6_feed_17 (by decide) (fun _ => ?_) (fun c => absurd (by decide) c)
        refine ev_bipush (v := (-2)) dX6_feed_51 (by decide) ?_
        refine ev_reti dX6_feed_53 rfl (Nat.zero_le _) (Nat.zero_le _) ?_
        refine am_qDi (B := A) ?_ hX fr_C.rf
        have hz := (am_inF (n := 256) (by decide) hb_a)
        simp [sp_feed, hz]
    · skip
      refine ev_bipush (v := (-2)) dX6_feed_10 (by decide) ?_
      refine ev_reti dX6_feed_12 rfl (Nat.zero_le _) (Nat.zero_le _) ?_
      refine am_qDi (B := A) ?_ hX fr_C.rf
      unfold sp_feed
      rw [if_neg]
      intro hz
      rw [Bool.and_eq_true, Bool.and_eq_true, decide_eq_true_eq, decide_eq_true_eq] at hz
      exact c2 hz.1.2

set_option maxHeartbeats 400000 in
set_option maxRecDepth 100000 in
theorem c_X6_depth (G : am_G) (D : Nat) (A : am_S) (σ : am_M) (hA : wf_A A) (hX : iv_X A σ) (s p i : Int32) : am_Mt G (D + 6) mX6_depth [.ref 32, .int s, .int p, .int i] σ 0 0 (am_qC A (.int (sp_depth A s p i)) σ) := by
  have b7 := wf_np7 hA
  have b8 := wf_nq8 hA
  have b6 := wf_nt6 hA
  have b61 := wf_nt1 hA
  have b160 := wf_tp160 hA
  have brl := wf_rlt hA
  refine am_of moX6_depth (Nat.le_of_ble_eq_true rfl) ?_
  show am_Ev G mX6_depth (am_R (D + 6) 0 0) 0 0 (am_qC A (.int (sp_depth A s p i)) σ) 0 [(0, .ref 32), (1, .int s), (2, .int p), (3, .int i)] [] σ 0 0
  refine ev_aload_n dX6_depth_0 rfl rfl ?_
  refine ev_iload_n dX6_depth_1 rfl rfl ?_
  refine ev_callV (as := [.int s]) (st := []) dX6_depth_2 mfX6_refusalOfTold lk_X6_219 (ly_k hX.ly 32 rfl) (by decide) rfl (c_X6_refusalOfTold G (D + 4) A σ hA hX s) rfl rfl (Nat.le_of_ble_eq_true rfl) (am_hR (by omega) (by decide)) ⟨Nat.le_refl _, Nat.le_refl _⟩ ?_
  rintro _ _ ⟨rfl, rfl⟩
  refine ev_istore (lv' := [(0, .ref 32), (1, .int s), (2, .int p), (3, .int i), (4, .int (s_wr A s))]) dX6_depth_5 (by decide) rfl ?_
  refine ev_iload dX6_depth_7 rfl ?_
  refine ev_if_eq (tgt := 15) dX6_depth_9 (by decide) (fun c1 => ?_) (fun c1 => ?_)
  · skip
    obtain ⟨S, hS, rfl, hsz⟩ := s_wrz c1
    refine ev_aload_n dX6_depth_15 rfl rfl ?_
    refine ev_iload_n dX6_depth_16 rfl rfl ?_
    refine ev_callV (as := [.int p]) (st := []) dX6_depth_17 mfX6_personAt lk_X6_128 (ly_k hX.ly 32 rfl) (by decide) rfl (c_X6_personAt G (D + 5) A σ hA hX p) rfl rfl (Nat.le_of_ble_eq_true rfl) (am_hR (by omega) (by decide)) ⟨Nat.le_refl _, Nat.le_refl _⟩ ?_
    rintro _ _ (⟨P, g, rfl, hP, hg, rfl, rfl⟩ | ⟨hnp, rfl, rfl⟩)
    · skip
      have h9 := hX.g9 hP hg
      refine ev_astore (lv' := [(0, .ref 32), (1, .int (nI S)), (2, .int (nI P)), (3, .int i), (4, .int (s_wr A (nI S))), (5, .ref g)]) dX6_depth_20 (by decide) rfl ?_
      refine ev_aload dX6_depth_22 rfl ?_
      refine ev_ifnullR dX6_depth_24 ?_
      refine ev_aload dX6_depth_27 rfl ?_
      refine ev_getI (v := A 69 P) dX6_depth_29 fl_X6_143 (hX.gk hP hg) (hX.g4 hP hg) ?_
      refine ev_iconst (v := (-1)) dX6_depth_32 (by decide) ?_
      refine ev_icmp_ne (tgt := 39) dX6_depth_33 (by decide) (fun c2 => ?_) (fun c2 => ?_)
      · skip
        obtain ⟨T, hT, eT⟩ := (wf_pp hA P hP).2.2.2.1.resolve_left c2
        refine ev_iload_n dX6_depth_39 rfl rfl ?_
        refine ev_callS (as := [.int i]) (st := []) dX6_depth_40 mfX6_isTopic lk_X6_132 (c_X6_isTopic G (D + 5) σ i) rfl rfl (Nat.le_of_ble_eq_true rfl) (am_hR (by omega) (by decide)) ⟨Nat.le_refl _, Nat.le_refl _⟩ ?_
        rintro _ _ (⟨⟨J, hJ, rfl⟩, rfl, rfl⟩ | ⟨hnj, rfl, rfl⟩)
        · skip
          obtain ⟨W, hW, eW⟩ := (wf_pp hA P hP).2.2.2.2 J hJ
          refine ev_if_ne (tgt := 49) dX6_depth_43 (by decide) (fun _ => ?_) (fun c => absurd c (by decide))
          refine ev_aload dX6_depth_49 rfl ?_
          refine ev_iload_n dX6_depth_51 rfl rfl ?_
          refine ev_callV (as := [.int (nI J)]) (st := []) dX6_depth_52 mfX1_deepAt lk_X6_135 (hX.gk hP hg) (by decide) rfl (by have hh := c_X1_deepAtN G (D + 4) A σ hA hX P g hP hg J hJ; rw [eW] at hh; exact hh) rfl rfl (Nat.le_of_ble_eq_true rfl) (am_hR (by omega) (by decide)) ⟨Nat.le_refl _, Nat.le_refl _⟩ ?_
          rintro _ _ ⟨rfl, rfl⟩
          refine ev_istore (lv' := [(0, .ref 32), (1, .int (nI S)), (2, .int (nI P)), (3, .int (nI J)), (4, .int (s_wr A (nI S))), (5, .ref g), (6, .int (nI W))]) dX6_depth_55 (by decide) rfl ?_
          refine ev_iconst (v := 0) dX6_depth_57 (by decide) ?_
          refine ev_istore (lv' := [(0, .ref 32), (1, .int (nI S)), (2, .int (nI P)), (3, .int (nI J)), (4, .int (s_wr A (nI S))), (5, .ref g), (6, .int (nI W)), (7, .int 0)]) dX6_depth_58 (by decide) rfl ?_
          refine ev_iconst (v := 0) dX6_depth_60 (by decide) ?_
          refine ev_istore (lv' := [(0, .ref 32), (1, .int (nI S)), (2, .int (nI P)), (3, .int (nI J)), (4, .int (s_wr A (nI S))), (5, .ref g), (6, .int (nI W)), (7, .int 0), (8, .int 0)]) dX6_depth_61 (by decide) rfl ?_
          have lp : ∀ (f : Nat) (d : Nat) (fd : Int32) (x : Int32) (τ : am_M), (d ≤ 10) → (fd = nI (mk_m (fun d => decide (s_ul (s_dd A P J d) S (s_se A T) = none)) d)) → (am_rg x 10) → (iv_X (am_up A 70 (4 * P + J) x) τ) → (fr_C σ τ) → 10 - d < f → am_Ev G mX6_depth (am_R (D + 6) 0 0) 0 0 (am_qC A (.int (sp_depth A (nI S) (nI P) (nI J))) σ) 63 [(0, .ref 32), (1, .int (nI S)), (2, .int (nI P)), (3, .int (nI J)), (4, .int (s_wr A (nI S))), (5, .ref g), (6, .int (nI W)), (7, .int fd), (8, .int (nI d))] [] τ 0 0 := by
            intro f
            induction f with
            | zero => intro d fd x τ hd hfd hxx hXt hFt hf; exact absurd hf (Nat.not_lt_zero _)
            | succ f ih =>
              intro d fd x τ hd hfd hxx hXt hFt hf
              refine ev_iload dX6_depth_63 rfl ?_
              refine ev_bipush (v := 9) dX6_depth_65 (by decide) ?_
              refine ev_icmp_gt (tgt := 111) dX6_depth_67 (by decide) (fun c3 => ?_) (fun c3 => ?_)
              · skip
                have c3n : 9 < d := (nI_ltI (a := 9) (b := d) (by omega) (by omega)).mp c3
                refine ev_aload dX6_depth_111 rfl ?_
                refine ev_iload_n dX6_depth_113 rfl rfl ?_
                refine ev_iload dX6_depth_114 rfl ?_
                refine ev_callV (as := [.int (nI J), .int (nI W)]) (st := []) dX6_depth_116 mfX1_becomeDeep lk_X6_139 (hXt.gk (np_up (by omega) hP) ((congrFun (congrFun hFt.2.1 33) P).trans hg)) (by decide) rfl (c_X1_becomeDeepN G (D + 3) (am_up A 70 (4 * P + J) x) τ (wf_70 hA hxx) hXt P g (np_up (by omega) hP) ((congrFun (congrFun hFt.2.1 33) P).trans hg) J (by omega) (nI W)) rfl rfl (Nat.le_of_ble_eq_true rfl) (am_hR (by omega) (by decide)) ⟨Nat.le_refl _, Nat.le_refl _⟩ ?_
                rintro _ _ ⟨rfl, rfl⟩
                rw [am_bd9 (V := W) (by omega)]
                refine ev_iload dX6_depth_119 rfl ?_
                refine ev_reti dX6_depth_121 rfl (Nat.zero_le _) (Nat.zero_le _) ?_
                have e : d = 10 := by omega
                subst e
                refine ⟨?_, by have z : iv_X (am_up (am_up A 70 (4 * P + J) x) 70 (4 * P + J) (nI W)) (am_sI τ (g + 1) J (nI W)) := (iv_X.w70 (np_up (by omega) hP) ((congrFun (congrFun hFt.2.1 33) P).trans hg) (by omega) hXt); rw [am_uw2, am_uu eW] at z; exact z, (fr_C.wr (by omega) hFt)⟩
                have e : sp_depth A (nI S) (nI P) (nI J) = fd := by
                  unfold sp_depth
                  rw [if_neg (fun z => z c1), am_inN hP (by omega), sN_n (show P < 2 ^ 31 by omega), decide_eq_true c2, if_pos (show (true && true) = true from rfl), am_inN hJ (by decide), if_pos rfl, eT, sN_n (show T < 2 ^ 31 by omega), sN_n (show J < 2 ^ 31 by omega), sN_n (show S < 2 ^ 31 by omega), hfd]
                rw [e]
              · skip
                have c3n : ¬ 9 < d := fun zz => c3 ((nI_ltI (a := 9) (b := d) (by omega) (by omega)).mpr zz)
                refine ev_aload dX6_depth_70 rfl ?_
                refine ev_iload_n dX6_depth_72 rfl rfl ?_
                refine ev_iload dX6_depth_73 rfl ?_
                refine ev_callV (as := [.int (nI J), .int (nI d)]) (st := []) dX6_depth_75 mfX1_becomeDeep lk_X6_139 (hXt.gk (np_up (by omega) hP) ((congrFun (congrFun hFt.2.1 33) P).trans hg)) (by decide) rfl (c_X1_becomeDeepN G (D + 3) (am_up A 70 (4 * P + J) x) τ (wf_70 hA hxx) hXt P g (np_up (by omega) hP) ((congrFun (congrFun hFt.2.1 33) P).trans hg) J (by omega) (nI d)) rfl rfl (Nat.le_of_ble_eq_true rfl) (am_hR (by omega) (by decide)) ⟨Nat.le_refl _, Nat.le_refl _⟩ ?_
                rintro _ _ ⟨rfl, rfl⟩
                rw [am_bd9 (V := d) (by omega)]
                have hA2 : wf_A (am_up A 70 (4 * P + J) (nI d)) := wf_70 hA ⟨d, by omega, rfl⟩
                have hX2 : iv_X (am_up A 70 (4 * P + J) (nI d)) (am_sI τ (g + 1) J (nI d)) := by have z : iv_X (am_up (am_up A 70 (4 * P + J) x) 70 (4 * P + J) (nI d)) (am_sI τ (g + 1) J (nI d)) := (iv_X.w70 (np_up (by omega) hP) ((congrFun (congrFun hFt.2.1 33) P).trans hg) (by omega) hXt); rw [am_uw2] at z; exact z
                have b8d : s_nq (am_up A 70 (4 * P + J) (nI d)) ≤ 8 := wf_nq8 hA2
                refine ev_aload_n dX6_depth_78 rfl rfl ?_
                refine ev_callV (as := []) (st := []) dX6_depth_79 mfX6_reckon lk_X6_164 (ly_k hX2.ly 32 rfl) (by decide) rfl (c_X6_reckon G (D + 1) (am_up A 70 (4 * P + J) (nI d)) (am_sI τ (g + 1) J (nI d)) hA2 hX2 ) rfl rfl (Nat.le_of_ble_eq_true rfl) (am_hR (by omega) (by decide)) ⟨Nat.le_refl _, Nat.le_refl _⟩ ?_
                rintro _ σ4 ⟨rfl, hX4, hF4, hc4, hr4⟩
                have hg_4 : σ4.2.2 33 P = some g := (congrFun (congrFun hF4.2.1 33) _).trans ((congrFun (congrFun hFt.2.1 33) P).trans hg)
                refine ev_aload_n dX6_depth_82 rfl rfl ?_
                refine ev_iload_n dX6_depth_83 rfl rfl ?_
                refine ev_aload dX6_depth_84 rfl ?_
                refine ev_getI (v := nI T) dX6_depth_86 fl_X6_143 (hX4.gk (np_up (by omega) hP) hg_4) ((hX4.g4 (np_up (by omega) hP) hg_4).trans ((am_ua (by decide)).trans eT)) ?_
                refine ev_callV (as := [.int (nI S), .int (nI T)]) (st := []) dX6_depth_89 mfX6_firstOtherwise lk_X6_222 (ly_k hX4.ly 32 rfl) (by decide) rfl (c_X6_firstOtherwise G (D + 3) (am_up A 70 (4 * P + J) (nI d)) σ4 hA2 hX4 S T hS (by omega) ((am_ua (by decide)).trans (hsz.trans (am_un (by omega)).symm)) hc4 hr4) rfl rfl (Nat.le_of_ble_eq_true rfl) (am_hR (by omega) (by decide)) ⟨Nat.le_refl _, Nat.le_refl _⟩ ?_
                rintro _ _ ⟨rfl, rfl⟩
                refine ev_iconst (v := (-1)) dX6_depth_92 (by decide) ?_
                refine ev_icmp_ne (tgt := 105) dX6_depth_93 (by decide) (fun c5 => ?_) (fun c5 => ?_)
                · skip
                  have hun : ¬ s_ul (s_dd A P J d) S (s_se A T) = none := fun z => c5 ((s_ulI (A := s_dd A P J d) b8d).mpr z)
                  refine ev_iinc (lv' := [(0, .ref 32), (1, .int (nI S)), (2, .int (nI P)), (3, .int (nI J)), (4, .int (s_wr A (nI S))), (5, .ref g), (6, .int (nI W)), (7, .int fd), (8, .int (nI (d + 1)))]) (v := nI (d + 1)) dX6_depth_105 rfl (nI_1 _) (by decide) rfl ?_
                  refine ev_goto (tgt := 63) dX6_depth_108 (by decide) ?_
                  exact ih (d + 1) fd (nI d) σ4 (by omega) (by rw [hfd, mk_f (f := (fun d => decide (s_ul (s_dd A P J d) S (s_se A T) = none))) (n := d) (decide_eq_false hun)]) (⟨d, by omega, rfl⟩) hX4 (fr_C.tr (fr_C.wr (by omega) hFt) hF4) (by omega)
                · skip
                  have hun : s_ul (s_dd A P J d) S (s_se A T) = none := (s_ulI (A := s_dd A P J d) b8d).mp c5
                  refine ev_iload dX6_depth_96 rfl ?_
                  refine ev_iconst (v := 1) dX6_depth_98 (by decide) ?_
                  refine ev_iload dX6_depth_99 rfl ?_
                  refine ev_ishl (v := 1 <<< ((nI d) &&& 31)) dX6_depth_101 rfl ?_
                  refine ev_ior (v := fd ||| (1 <<< ((nI d) &&& 31))) dX6_depth_102 rfl ?_
                  refine ev_istore (lv' := [(0, .ref 32), (1, .int (nI S)), (2, .int (nI P)), (3, .int (nI J)), (4, .int (s_wr A (nI S))), (5, .ref g), (6, .int (nI W)), (7, .int (fd ||| (1 <<< ((nI d) &&& 31)))), (8, .int (nI d))]) dX6_depth_103 (by decide) rfl ?_
                  refine ev_iinc (lv' := [(0, .ref 32), (1, .int (nI S)), (2, .int (nI P)), (3, .int (nI J)), (4, .int (s_wr A (nI S))), (5, .ref g), (6, .int (nI W)), (7, .int (fd ||| (1 <<< ((nI d) &&& 31)))), (8, .int (nI (d + 1)))]) (v := nI (d + 1)) dX6_depth_105 rfl (nI_1 _) (by decide) rfl ?_
                  refine ev_goto (tgt := 63) dX6_depth_108 (by decide) ?_
                  exact ih (d + 1) (fd ||| (1 <<< ((nI d) &&& 31))) (nI d) σ4 (by omega) (by rw [hfd, mk_o1 (by omega), mk_t (f := (fun d => decide (s_ul (s_dd A P J d) S (s_se A T) = none))) (n := d) (decide_eq_true hun)]) (⟨d, by omega, rfl⟩) hX4 (fr_C.tr (fr_C.wr (by omega) hFt) hF4) (by omega)
          exact lp _ 0 0 (A 70 (4 * P + J)) σ (Nat.zero_le _) rfl (⟨W, hW, eW⟩) (by rw [am_uu rfl]; exact hX) fr_C.rf (Nat.lt_succ_self _)
        · skip
          refine ev_if_ne (tgt := 49) dX6_depth_43 (by decide) (fun c => absurd (by decide) c) (fun _ => ?_)
          refine ev_bipush (v := (-7)) dX6_depth_46 (by decide) ?_
          refine ev_reti dX6_depth_48 rfl (Nat.zero_le _) (Nat.zero_le _) ?_
          refine ⟨?_, hX, fr_C.rf⟩
          simp [sp_depth, c1, am_inN hP (by omega), sN_n (show P < 2 ^ 31 by omega), c2, am_inF (by omega) hnj, sN_n (show S < 2 ^ 31 by omega)]
      · skip
        refine ev_bipush (v := (-5)) dX6_depth_36 (by decide) ?_
        refine ev_reti dX6_depth_38 rfl (Nat.zero_le _) (Nat.zero_le _) ?_
        refine ⟨?_, hX, fr_C.rf⟩
        simp [sp_depth, c1, am_inN hP (by omega), sN_n (show P < 2 ^ 31 by omega), c2, sN_n (show S < 2 ^ 31 by omega)]
    · skip
      refine ev_astoreN (lv' := [(0, .ref 32), (1, .int (nI S)), (2, .int p), (3, .int i), (4, .int (s_wr A (nI S))), (5, .null)]) dX6_depth_20 (by decide) rfl ?_
      refine ev_aloadN dX6_depth_22 rfl ?_
      refine ev_ifnullN (tgt := 36) dX6_depth_24 (by decide) ?_
      refine ev_bipush (v := (-5)) dX6_depth_36 (by decide) ?_
      refine ev_reti dX6_depth_38 rfl (Nat.zero_le _) (Nat.zero_le _) ?_
      refine ⟨?_, hX, fr_C.rf⟩
      simp [sp_depth, c1, am_inF (by omega) hnp, sN_n (show S < 2 ^ 31 by omega)]
  · skip
    refine ev_iload dX6_depth_12 rfl ?_
    refine ev_reti dX6_depth_14 rfl (Nat.zero_le _) (Nat.zero_le _) ?_
    refine ⟨?_, hX, fr_C.rf⟩
    simp [sp_depth, c1]

