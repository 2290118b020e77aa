/-! the reference: copies, triples -/
theorem am_subI {x y : Int32} (h1 : -2147483648 ≤ x.toInt - y.toInt) (h2 : x.toInt - y.toInt < 2147483648) : (x - y).toInt = x.toInt - y.toInt := by
  rw [Int32.toInt_sub, Int.bmod_eq_of_le (by omega) (by omega)]
theorem s_rowN {A : am_S} {s ki kn m : Nat} (e : A 81 s = nI m) (hm : m ≤ 40) (hi : ki < 2 ^ 31) (hn : kn < 2 ^ 31) : s_row A s (nI ki) (nI kn) = decide (kn + ki ≤ m) := by
  unfold s_row
  have z0 : (0 : Int32).toInt = 0 := rfl
  have h1 : (0 : Int32) ≤ nI ki := by rw [Int32.le_iff_toInt_le, nI_toInt hi, z0]; omega
  have h2 : (0 : Int32) ≤ nI kn := by rw [Int32.le_iff_toInt_le, nI_toInt hn, z0]; omega
  have em : (nI m).toInt = (m : Int) := nI_toInt (by omega)
  have en : (nI kn).toInt = (kn : Int) := nI_toInt hn
  have ei : (nI ki).toInt = (ki : Int) := nI_toInt hi
  rw [decide_eq_true h1, decide_eq_true h2, e, Bool.true_and, Bool.true_and]
  apply decide_eq_decide.mpr
  rw [Int32.le_iff_toInt_le, am_subI (by omega) (by omega), em, en, ei]
  omega
theorem s_row_n {A : am_S} {s : Nat} {i n : Int32} (h : n < 0) : s_row A s i n = false := by
  unfold s_row
  rw [decide_eq_false (Int32.not_le.mpr h), Bool.false_and, Bool.and_false]
theorem s_row_i {A : am_S} {s : Nat} {i n : Int32} (h : i < 0) : s_row A s i n = false := by
  unfold s_row
  rw [decide_eq_false (Int32.not_le.mpr h), Bool.false_and]
theorem am_le3 {m p : Nat} (hm : m ≤ 40) (hp : p < 2 ^ 31) : nI p ≤ nI m - 3 ↔ p + 3 ≤ m := by
  have em : (nI m).toInt = (m : Int) := nI_toInt (by omega)
  have ep : (nI p).toInt = (p : Int) := nI_toInt hp
  have e3 : (3 : Int32).toInt = 3 := rfl
  rw [Int32.le_iff_toInt_le, am_subI (by omega) (by omega), em, ep, e3]
  omega
theorem sp_cpN {A : am_S} {s o : Nat} {i j n : Int32} (hs : s < 4) (ho : o < 4) : sp_copy A (nI s) i (nI o) j n = (if A 80 s = -1 ∨ A 80 o = -1 then (-11, A) else if A 80 s ≠ A 80 o then (-13, A) else if s_row A s i n && s_row A o j n then (n, s_mv A (40 * s + sN i) (40 * o + sN j) (sN n)) else (-12, A)) := by
  unfold sp_copy
  rw [am_inN hs (by omega), am_inN ho (by omega), sN_n (show s < 2 ^ 31 by omega), sN_n (show o < 2 ^ 31 by omega)]
  rfl
theorem s_wrap {k : Nat} : (k : Nat) = k := rfl
set_option maxHeartbeats 400000 in
set_option maxRecDepth 100000 in
theorem c_X7_copy (G : am_G) (D : Nat) (A : am_S) (σ : am_M) (hA : wf_A A) (hI : iv_M A σ) (s i o j n : Int32) : am_Mt G (D + 1) mX7_copy [.ref 65, .int s, .int i, .int o, .int j, .int n] σ 0 0 (am_qP (sp_copy A s i o j n) σ) := by
  have b7 := wf_np7 hA
  have b8 := wf_nq8 hA
  have b6 := wf_nt6 hA
  have b61 := wf_nt1 hA
  have b160 := wf_tp160 hA
  have brl := wf_rlt hA
  refine am_of moX7_copy (Nat.le_of_ble_eq_true rfl) ?_
  show am_Ev G mX7_copy (am_R (D + 1) 0 0) 0 0 (am_qP (sp_copy A s i o j n) σ) 0 [(0, .ref 65), (1, .int s), (2, .int i), (3, .int o), (4, .int j), (5, .int n)] [] σ 0 0
  refine ev_iload_n dX7_copy_0 rfl rfl ?_
  refine ev_iconst (v := 0) dX7_copy_1 (by decide) ?_
  refine ev_iconst (v := 3) dX7_copy_2 (by decide) ?_
  refine ev_callS (as := [.int s, .int 0, .int 3]) (st := []) dX7_copy_3 mfX7_in lk_X7_90 (c_X7_in G D σ s 0 3) rfl rfl (Nat.le_of_ble_eq_true rfl) (am_hR (by omega) (by decide)) ⟨Nat.le_refl _, Nat.le_refl _⟩ ?_
  rintro _ _ (⟨h1, rfl, rfl⟩ | ⟨h1, rfl, rfl⟩)
  · skip
    obtain ⟨js, hjs, rfl⟩ := (am_rgl (n := 4) (by decide)).mp h1
    refine ev_if_eq (tgt := 18) dX7_copy_6 (by decide) (fun c => absurd c (by decide)) (fun _ => ?_)
    refine ev_iload_n dX7_copy_9 rfl rfl ?_
    refine ev_iconst (v := 0) dX7_copy_10 (by decide) ?_
    refine ev_iconst (v := 3) dX7_copy_11 (by decide) ?_
    refine ev_callS (as := [.int o, .int 0, .int 3]) (st := []) dX7_copy_12 mfX7_in lk_X7_90 (c_X7_in G D σ o 0 3) rfl rfl (Nat.le_of_ble_eq_true rfl) (am_hR (by omega) (by decide)) ⟨Nat.le_refl _, Nat.le_refl _⟩ ?_
    rintro _ _ (⟨h2, rfl, rfl⟩ | ⟨h2, rfl, rfl⟩)
    · skip
      obtain ⟨jo, hjo, rfl⟩ := (am_rgl (n := 4) (by decide)).mp h2
      refine ev_if_ne (tgt := 21) dX7_copy_15 (by decide) (fun _ => ?_) (fun c => absurd c (by decide))
      refine ev_aload_n dX7_copy_21 rfl rfl ?_
      refine ev_getR (b := 80) dX7_copy_22 fl_X7_52 (ly_k hI.ly 65 rfl) (ly_r hI.ly 43 rfl) ?_
      refine ev_iload_n dX7_copy_25 rfl rfl ?_
      refine ev_iald (v := A 80 js) dX7_copy_26 (ly_k hI.ly 80 rfl) (am_ixn (by omega) (by decide)) (hI.rd 80 js rfl) ?_
      refine ev_iconst (v := (-1)) dX7_copy_27 (by decide) ?_
      refine ev_icmp_eq (tgt := 41) dX7_copy_28 (by decide) (fun c3 => ?_) (fun c3 => ?_)
      · skip
        refine ev_bipush (v := (-11)) dX7_copy_41 (by decide) ?_
        refine ev_reti dX7_copy_43 rfl (Nat.zero_le _) (Nat.zero_le _) ?_
        exact am_qPi (by rw [sp_cpN hjs hjo, if_pos (Or.inl c3)]) hI fr_M.rf
      · skip
        refine ev_aload_n dX7_copy_31 rfl rfl ?_
        refine ev_getR (b := 80) dX7_copy_32 fl_X7_52 (ly_k hI.ly 65 rfl) (ly_r hI.ly 43 rfl) ?_
        refine ev_iload_n dX7_copy_35 rfl rfl ?_
        refine ev_iald (v := A 80 jo) dX7_copy_36 (ly_k hI.ly 80 rfl) (am_ixn (by omega) (by decide)) (hI.rd 80 jo rfl) ?_
        refine ev_iconst (v := (-1)) dX7_copy_37 (by decide) ?_
        refine ev_icmp_ne (tgt := 44) dX7_copy_38 (by decide) (fun c4 => ?_) (fun c4 => ?_)
        · skip
          obtain ⟨ms, hms, ems⟩ := am_sz hA hjs
          obtain ⟨mo, hmo, emo⟩ := am_sz hA hjo
          refine ev_aload_n dX7_copy_44 rfl rfl ?_
          refine ev_getR (b := 80) dX7_copy_45 fl_X7_52 (ly_k hI.ly 65 rfl) (ly_r hI.ly 43 rfl) ?_
          refine ev_iload_n dX7_copy_48 rfl rfl ?_
          refine ev_iald (v := A 80 js) dX7_copy_49 (ly_k hI.ly 80 rfl) (am_ixn (by omega) (by decide)) (hI.rd 80 js rfl) ?_
          refine ev_aload_n dX7_copy_50 rfl rfl ?_
          refine ev_getR (b := 80) dX7_copy_51 fl_X7_52 (ly_k hI.ly 65 rfl) (ly_r hI.ly 43 rfl) ?_
          refine ev_iload_n dX7_copy_54 rfl rfl ?_
          refine ev_iald (v := A 80 jo) dX7_copy_55 (ly_k hI.ly 80 rfl) (am_ixn (by omega) (by decide)) (hI.rd 80 jo rfl) ?_
          refine ev_icmp_eq (tgt := 62) dX7_copy_56 (by decide) (fun c5 => ?_) (fun c5 => ?_)
          · skip
            refine ev_iload dX7_copy_62 rfl ?_
            refine ev_if_lt (tgt := 124) dX7_copy_64 (by decide) (fun c6 => ?_) (fun c6 => ?_)
            · skip
              refine ev_bipush (v := (-12)) dX7_copy_124 (by decide) ?_
              refine ev_reti dX7_copy_126 rfl (Nat.zero_le _) (Nat.zero_le _) ?_
              exact am_qPi (by rw [sp_cpN hjs hjo, if_neg (fun z => z.elim c3 c4), if_neg (fun z => z c5), s_row_n c6, Bool.false_and, if_neg (by decide)]) hI fr_M.rf
            · skip
              obtain ⟨kn, hkn, rfl⟩ := nI_of c6
              refine ev_iload_n dX7_copy_67 rfl rfl ?_
              refine ev_if_lt (tgt := 124) dX7_copy_68 (by decide) (fun c7 => ?_) (fun c7 => ?_)
              · skip
                refine ev_bipush (v := (-12)) dX7_copy_124 (by decide) ?_
                refine ev_reti dX7_copy_126 rfl (Nat.zero_le _) (Nat.zero_le _) ?_
                exact am_qPi (by rw [sp_cpN hjs hjo, if_neg (fun z => z.elim c3 c4), if_neg (fun z => z c5), s_row_i c7, Bool.false_and, if_neg (by decide)]) hI fr_M.rf
              · skip
                obtain ⟨ki, hki, rfl⟩ := nI_of c7
                refine ev_iload dX7_copy_71 rfl ?_
                refine ev_if_lt (tgt := 124) dX7_copy_73 (by decide) (fun c8 => ?_) (fun c8 => ?_)
                · skip
                  refine ev_bipush (v := (-12)) dX7_copy_124 (by decide) ?_
                  refine ev_reti dX7_copy_126 rfl (Nat.zero_le _) (Nat.zero_le _) ?_
                  exact am_qPi (by rw [sp_cpN hjs hjo, if_neg (fun z => z.elim c3 c4), if_neg (fun z => z c5), s_row_i (A := A) (s := jo) c8, Bool.and_false, if_neg (by decide)]) hI fr_M.rf
                · skip
                  obtain ⟨kj, hkj, rfl⟩ := nI_of c8
                  refine ev_iload_n dX7_copy_76 rfl rfl ?_
                  refine ev_aload_n dX7_copy_77 rfl rfl ?_
                  refine ev_getR (b := 81) dX7_copy_78 fl_X7_55 (ly_k hI.ly 65 rfl) (ly_r hI.ly 44 rfl) ?_
                  refine ev_iload_n dX7_copy_81 rfl rfl ?_
                  refine ev_iald (v := nI ms) dX7_copy_82 (ly_k hI.ly 81 rfl) (am_ixn (by omega) (by decide)) ((hI.rd 81 js rfl).trans ems) ?_
                  refine ev_icmp_gt (tgt := 124) dX7_copy_83 (by decide) (fun c9 => ?_) (fun c9 => ?_)
                  · skip
                    have c9n : ms < ki := (nI_ltI (a := ms) (b := ki) (by omega) (by omega)).mp c9
                    refine ev_bipush (v := (-12)) dX7_copy_124 (by decide) ?_
                    refine ev_reti dX7_copy_126 rfl (Nat.zero_le _) (Nat.zero_le _) ?_
                    exact am_qPi (by rw [sp_cpN hjs hjo, if_neg (fun z => z.elim c3 c4), if_neg (fun z => z c5), s_rowN ems hms hki hkn, decide_eq_false (show ¬ kn + ki ≤ ms by omega), Bool.false_and, if_neg (by decide)]) hI fr_M.rf
                  · skip
                    have c9n : ¬ ms < ki := fun zz => c9 ((nI_ltI (a := ms) (b := ki) (by omega) (by omega)).mpr zz)
                    refine ev_iload dX7_copy_86 rfl ?_
                    refine ev_aload_n dX7_copy_88 rfl rfl ?_
                    refine ev_getR (b := 81) dX7_copy_89 fl_X7_55 (ly_k hI.ly 65 rfl) (ly_r hI.ly 44 rfl) ?_
                    refine ev_iload_n dX7_copy_92 rfl rfl ?_
                    refine ev_iald (v := nI mo) dX7_copy_93 (ly_k hI.ly 81 rfl) (am_ixn (by omega) (by decide)) ((hI.rd 81 jo rfl).trans emo) ?_
                    refine ev_icmp_gt (tgt := 124) dX7_copy_94 (by decide) (fun c10 => ?_) (fun c10 => ?_)
                    · skip
                      have c10n : mo < kj := (nI_ltI (a := mo) (b := kj) (by omega) (by omega)).mp c10
                      refine ev_bipush (v := (-12)) dX7_copy_124 (by decide) ?_
                      refine ev_reti dX7_copy_126 rfl (Nat.zero_le _) (Nat.zero_le _) ?_
                      exact am_qPi (by rw [sp_cpN hjs hjo, if_neg (fun z => z.elim c3 c4), if_neg (fun z => z c5), s_rowN emo hmo hkj hkn, decide_eq_false (show ¬ kn + kj ≤ mo by omega), Bool.and_false, if_neg (by decide)]) hI fr_M.rf
                    · skip
                      have c10n : ¬ mo < kj := fun zz => c10 ((nI_ltI (a := mo) (b := kj) (by omega) (by omega)).mpr zz)
                      refine ev_iload dX7_copy_97 rfl ?_
                      refine ev_aload_n dX7_copy_99 rfl rfl ?_
                      refine ev_getR (b := 81) dX7_copy_100 fl_X7_55 (ly_k hI.ly 65 rfl) (ly_r hI.ly 44 rfl) ?_
                      refine ev_iload_n dX7_copy_103 rfl rfl ?_
                      refine ev_iald (v := nI ms) dX7_copy_104 (ly_k hI.ly 81 rfl) (am_ixn (by omega) (by decide)) ((hI.rd 81 js rfl).trans ems) ?_
                      refine ev_iload_n dX7_copy_105 rfl rfl ?_
                      refine ev_isub (v := nI (ms - ki)) dX7_copy_106 (pk_sub (by omega)) ?_
                      refine ev_icmp_gt (tgt := 124) dX7_copy_107 (by decide) (fun c11 => ?_) (fun c11 => ?_)
                      · skip
                        have c11n : (ms - ki) < kn := (nI_ltI (a := (ms - ki)) (b := kn) (by omega) (by omega)).mp c11
                        refine ev_bipush (v := (-12)) dX7_copy_124 (by decide) ?_
                        refine ev_reti dX7_copy_126 rfl (Nat.zero_le _) (Nat.zero_le _) ?_
                        exact am_qPi (by rw [sp_cpN hjs hjo, if_neg (fun z => z.elim c3 c4), if_neg (fun z => z c5), s_rowN ems hms hki hkn, decide_eq_false (show ¬ kn + ki ≤ ms by omega), Bool.false_and, if_neg (by decide)]) hI fr_M.rf
                      · skip
                        have c11n : ¬ (ms - ki) < kn := fun zz => c11 ((nI_ltI (a := (ms - ki)) (b := kn) (by omega) (by omega)).mpr zz)
                        refine ev_iload dX7_copy_110 rfl ?_
                        refine ev_aload_n dX7_copy_112 rfl rfl ?_
                        refine ev_getR (b := 81) dX7_copy_113 fl_X7_55 (ly_k hI.ly 65 rfl) (ly_r hI.ly 44 rfl) ?_
                        refine ev_iload_n dX7_copy_116 rfl rfl ?_
                        refine ev_iald (v := nI mo) dX7_copy_117 (ly_k hI.ly 81 rfl) (am_ixn (by omega) (by decide)) ((hI.rd 81 jo rfl).trans emo) ?_
                        refine ev_iload dX7_copy_118 rfl ?_
                        refine ev_isub (v := nI (mo - kj)) dX7_copy_120 (pk_sub (by omega)) ?_
                        refine ev_icmp_le (tgt := 127) dX7_copy_121 (by decide) (fun c12 => ?_) (fun c12 => ?_)
                        · skip
                          have c12n : kn ≤ (mo - kj) := (nI_leI (a := kn) (b := (mo - kj)) (by omega) (by omega)).mp c12
                          refine ev_bipush (v := 40) dX7_copy_127 (by decide) ?_
                          refine ev_iload_n dX7_copy_129 rfl rfl ?_
                          refine ev_imul (v := nI (40 * js)) dX7_copy_130 (pk_mul 40 js) ?_
                          refine ev_iload_n dX7_copy_131 rfl rfl ?_
                          refine ev_iadd (v := nI (40 * js + ki)) dX7_copy_132 (nI_add (40 * js) ki) ?_
                          refine ev_istore (lv' := [(0, .ref 65), (1, .int (nI js)), (2, .int (nI ki)), (3, .int (nI jo)), (4, .int (nI kj)), (5, .int (nI kn)), (6, .int (nI (40 * js + ki)))]) dX7_copy_133 (by decide) rfl ?_
                          refine ev_bipush (v := 40) dX7_copy_135 (by decide) ?_
                          refine ev_iload_n dX7_copy_137 rfl rfl ?_
                          refine ev_imul (v := nI (40 * jo)) dX7_copy_138 (pk_mul 40 jo) ?_
                          refine ev_iload dX7_copy_139 rfl ?_
                          refine ev_iadd (v := nI (40 * jo + kj)) dX7_copy_141 (nI_add (40 * jo) kj) ?_
                          refine ev_istore (lv' := [(0, .ref 65), (1, .int (nI js)), (2, .int (nI ki)), (3, .int (nI jo)), (4, .int (nI kj)), (5, .int (nI kn)), (6, .int (nI (40 * js + ki))), (7, .int (nI (40 * jo + kj)))]) dX7_copy_142 (by decide) rfl ?_
                          by_cases hd : 40 * js + ki < 40 * jo + kj
                          · skip
                            refine ev_iconst (v := 0) dX7_copy_144 (by decide) ?_
                            refine ev_istore (lv' := [(0, .ref 65), (1, .int (nI js)), (2, .int (nI ki)), (3, .int (nI jo)), (4, .int (nI kj)), (5, .int (nI kn)), (6, .int (nI (40 * js + ki))), (7, .int (nI (40 * jo + kj))), (8, .int 0)]) dX7_copy_145 (by decide) rfl ?_
                            have lp : ∀ (f : Nat) (k : Nat) (σ1 : am_M), (k ≤ kn) → (iv_M (s_mv A (40 * js + ki + (kn - k)) (40 * jo + kj + (kn - k)) k) σ1) → (fr_M σ σ1) → kn - k < f → am_Ev G mX7_copy (am_R (D + 1) 0 0) 0 0 (am_qP (sp_copy A (nI js) (nI ki) (nI jo) (nI kj) (nI kn)) σ) 147 [(0, .ref 65), (1, .int (nI js)), (2, .int (nI ki)), (3, .int (nI jo)), (4, .int (nI kj)), (5, .int (nI kn)), (6, .int (nI (40 * js + ki))), (7, .int (nI (40 * jo + kj))), (8, .int (nI k))] [] σ1 0 0 := by
                              intro f
                              induction f with
                              | zero => intro k σ1 hk hI hF hf; exact absurd hf (Nat.not_lt_zero _)
                              | succ f ih =>
                                intro k σ1 hk hI hF hf
                                refine ev_iload dX7_copy_147 rfl ?_
                                refine ev_iload dX7_copy_149 rfl ?_
                                refine ev_icmp_ge (tgt := 201) dX7_copy_151 (by decide) (fun c13 => ?_) (fun c13 => ?_)
                                · skip
                                  have c13n : kn ≤ k := (nI_leI (a := kn) (b := k) (by omega) (by omega)).mp c13
                                  refine ev_iload dX7_copy_201 rfl ?_
                                  refine ev_reti dX7_copy_203 rfl (Nat.zero_le _) (Nat.zero_le _) ?_
                                  have e : k = kn := by omega
                                  subst e
                                  exact am_qPi (B := s_mv A (40 * js + ki) (40 * jo + kj) k) (by rw [sp_cpN hjs hjo, if_neg (fun z => z.elim c3 c4), if_neg (fun z => z c5), s_rowN ems hms hki hkn, s_rowN emo hmo hkj hkn, decide_eq_true (show k + ki ≤ ms by omega), decide_eq_true (show k + kj ≤ mo by omega), if_pos (show (true && true) = true from rfl), sN_n hki, sN_n hkj, sN_n hkn]) (iv_M.cg hI (fun _ _ _ => by rw [Nat.sub_self, Nat.add_zero, Nat.add_zero])) hF
                                · skip
                                  have c13n : ¬ kn ≤ k := fun zz => c13 ((nI_leI (a := kn) (b := k) (by omega) (by omega)).mpr zz)
                                  refine ev_iload dX7_copy_154 rfl ?_
                                  refine ev_iload dX7_copy_156 rfl ?_
                                  refine ev_icmp_ge (tgt := 171) dX7_copy_158 (by decide) (fun c => absurd c (fun z => absurd ((nI_leI (by omega) (by omega)).mp z) (by omega))) (fun _ => ?_)
                                  refine ev_iload dX7_copy_161 rfl ?_
                                  refine ev_iconst (v := 1) dX7_copy_163 (by decide) ?_
                                  refine ev_isub (v := nI (kn - 1)) dX7_copy_164 (pk_sub (b := 1) (by omega)) ?_
                                  refine ev_iload dX7_copy_165 rfl ?_
                                  refine ev_isub (v := nI (kn - 1 - k)) dX7_copy_167 (pk_sub (by omega)) ?_
                                  refine ev_goto (tgt := 173) dX7_copy_168 (by decide) ?_
                                  refine ev_istore (lv' := [(0, .ref 65), (1, .int (nI js)), (2, .int (nI ki)), (3, .int (nI jo)), (4, .int (nI kj)), (5, .int (nI kn)), (6, .int (nI (40 * js + ki))), (7, .int (nI (40 * jo + kj))), (8, .int (nI k)), (9, .int (nI (kn - 1 - k)))]) dX7_copy_173 (by decide) rfl ?_
                                  refine ev_aload_n dX7_copy_175 rfl rfl ?_
                                  refine ev_getR (b := 82) dX7_copy_176 fl_X7_58 (ly_k hI.ly 65 rfl) (ly_r hI.ly 45 rfl) ?_
                                  refine ev_iload dX7_copy_179 rfl ?_
                                  refine ev_iload dX7_copy_181 rfl ?_
                                  refine ev_iadd (v := nI (40 * jo + kj + (kn - 1 - k))) dX7_copy_183 (nI_add (40 * jo + kj) (kn - 1 - k)) ?_
                                  refine ev_aload_n dX7_copy_184 rfl rfl ?_
                                  refine ev_getR (b := 82) dX7_copy_185 fl_X7_58 (ly_k hI.ly 65 rfl) (ly_r hI.ly 45 rfl) ?_
                                  refine ev_iload dX7_copy_188 rfl ?_
                                  refine ev_iload dX7_copy_190 rfl ?_
                                  refine ev_iadd (v := nI (40 * js + ki + (kn - 1 - k))) dX7_copy_192 (nI_add (40 * js + ki) (kn - 1 - k)) ?_
                                  refine ev_iald (v := A 82 (40 * js + ki + (kn - 1 - k))) dX7_copy_193 (ly_k hI.ly 82 rfl) (am_ixn (by omega) (by decide)) ((hI.rd 82 (40 * js + ki + (kn - 1 - k)) rfl).trans (s_mvFr (by omega))) ?_
                                  refine ev_iast dX7_copy_194 (ly_k hI.ly 82 rfl) (am_ixn (by omega) (by decide)) ?_
                                  refine ev_iinc (lv' := [(0, .ref 65), (1, .int (nI js)), (2, .int (nI ki)), (3, .int (nI jo)), (4, .int (nI kj)), (5, .int (nI kn)), (6, .int (nI (40 * js + ki))), (7, .int (nI (40 * jo + kj))), (8, .int (nI (k + 1))), (9, .int (nI (kn - 1 - k)))]) (v := nI (k + 1)) dX7_copy_195 rfl (nI_1 _) (by decide) rfl ?_
                                  refine ev_goto (tgt := 147) dX7_copy_198 (by decide) ?_
                                  refine ev_keep (lv' := [(0, .ref 65), (1, .int (nI js)), (2, .int (nI ki)), (3, .int (nI jo)), (4, .int (nI kj)), (5, .int (nI kn)), (6, .int (nI (40 * js + ki))), (7, .int (nI (40 * jo + kj))), (8, .int (nI (k + 1)))]) [0, 1, 2, 3, 4, 5, 6, 7, 8] rfl ?_
                                  exact ih (k + 1) (am_sI σ1 82 (40 * jo + kj + (kn - 1 - k)) (A 82 (40 * js + ki + (kn - 1 - k)))) (by omega) (iv_M.cg (iv_M.up hI) (fun _ _ _ => by rw [s_mvB (by omega)])) (fr_M.wr (by decide) hF) (by omega)
                            exact lp _ 0 σ (by omega) (iv_M.cg hI (fun _ _ _ => by rw [s_mv0])) fr_M.rf (Nat.lt_succ_self _)
                          · skip
                            refine ev_iconst (v := 0) dX7_copy_144 (by decide) ?_
                            refine ev_istore (lv' := [(0, .ref 65), (1, .int (nI js)), (2, .int (nI ki)), (3, .int (nI jo)), (4, .int (nI kj)), (5, .int (nI kn)), (6, .int (nI (40 * js + ki))), (7, .int (nI (40 * jo + kj))), (8, .int 0)]) dX7_copy_145 (by decide) rfl ?_
                            have lp : ∀ (f : Nat) (k : Nat) (σ1 : am_M), (k ≤ kn) → (iv_M (s_mv A (40 * js + ki) (40 * jo + kj) k) σ1) → (fr_M σ σ1) → kn - k < f → am_Ev G mX7_copy (am_R (D + 1) 0 0) 0 0 (am_qP (sp_copy A (nI js) (nI ki) (nI jo) (nI kj) (nI kn)) σ) 147 [(0, .ref 65), (1, .int (nI js)), (2, .int (nI ki)), (3, .int (nI jo)), (4, .int (nI kj)), (5, .int (nI kn)), (6, .int (nI (40 * js + ki))), (7, .int (nI (40 * jo + kj))), (8, .int (nI k))] [] σ1 0 0 := by
                              intro f
                              induction f with
                              | zero => intro k σ1 hk hI hF hf; exact absurd hf (Nat.not_lt_zero _)
                              | succ f ih =>
                                intro k σ1 hk hI hF hf
                                refine ev_iload dX7_copy_147 rfl ?_
                                refine ev_iload dX7_copy_149 rfl ?_
                                refine ev_icmp_ge (tgt := 201) dX7_copy_151 (by decide) (fun c14 => ?_) (fun c14 => ?_)
                                · skip
                                  have c14n : kn ≤ k := (nI_leI (a := kn) (b := k) (by omega) (by omega)).mp c14
                                  refine ev_iload dX7_copy_201 rfl ?_
                                  refine ev_reti dX7_copy_203 rfl (Nat.zero_le _) (Nat.zero_le _) ?_
                                  have e : k = kn := by omega
                                  subst e
                                  exact am_qPi (B := s_mv A (40 * js + ki) (40 * jo + kj) k) (by rw [sp_cpN hjs hjo, if_neg (fun z => z.elim c3 c4), if_neg (fun z => z c5), s_rowN ems hms hki hkn, s_rowN emo hmo hkj hkn, decide_eq_true (show k + ki ≤ ms by omega), decide_eq_true (show k + kj ≤ mo by omega), if_pos (show (true && true) = true from rfl), sN_n hki, sN_n hkj, sN_n hkn]) hI hF
                                · skip
                                  have c14n : ¬ kn ≤ k := fun zz => c14 ((nI_leI (a := kn) (b := k) (by omega) (by omega)).mpr zz)
                                  refine ev_iload dX7_copy_154 rfl ?_
                                  refine ev_iload dX7_copy_156 rfl ?_
                                  refine ev_icmp_ge (tgt := 171) dX7_copy_158 (by decide) (fun _ => ?_) (fun c => absurd ((nI_leI (by omega) (by omega)).mpr (by omega)) c)
                                  refine ev_iload dX7_copy_171 rfl ?_
                                  refine ev_istore (lv' := [(0, .ref 65), (1, .int (nI js)), (2, .int (nI ki)), (3, .int (nI jo)), (4, .int (nI kj)), (5, .int (nI kn)), (6, .int (nI (40 * js + ki))), (7, .int (nI (40 * jo + kj))), (8, .int (nI k)), (9, .int (nI k))]) dX7_copy_173 (by decide) rfl ?_
                                  refine ev_aload_n dX7_copy_175 rfl rfl ?_
                                  refine ev_getR (b := 82) dX7_copy_176 fl_X7_58 (ly_k hI.ly 65 rfl) (ly_r hI.ly 45 rfl) ?_
                                  refine ev_iload dX7_copy_179 rfl ?_
                                  refine ev_iload dX7_copy_181 rfl ?_
                                  refine ev_iadd (v := nI (40 * jo + kj + k)) dX7_copy_183 (nI_add (40 * jo + kj) k) ?_
                                  refine ev_aload_n dX7_copy_184 rfl rfl ?_
                                  refine ev_getR (b := 82) dX7_copy_185 fl_X7_58 (ly_k hI.ly 65 rfl) (ly_r hI.ly 45 rfl) ?_
                                  refine ev_iload dX7_copy_188 rfl ?_
                                  refine ev_iload dX7_copy_190 rfl ?_
                                  refine ev_iadd (v := nI (40 * js + ki + k)) dX7_copy_192 (nI_add (40 * js + ki) k) ?_
                                  refine ev_iald (v := A 82 (40 * js + ki + k)) dX7_copy_193 (ly_k hI.ly 82 rfl) (am_ixn (by omega) (by decide)) ((hI.rd 82 (40 * js + ki + k) rfl).trans (s_mvFr (by omega))) ?_
                                  refine ev_iast dX7_copy_194 (ly_k hI.ly 82 rfl) (am_ixn (by omega) (by decide)) ?_
                                  refine ev_iinc (lv' := [(0, .ref 65), (1, .int (nI js)), (2, .int (nI ki)), (3, .int (nI jo)), (4, .int (nI kj)), (5, .int (nI kn)), (6, .int (nI (40 * js + ki))), (7, .int (nI (40 * jo + kj))), (8, .int (nI (k + 1))), (9, .int (nI k))]) (v := nI (k + 1)) dX7_copy_195 rfl (nI_1 _) (by decide) rfl ?_
                                  refine ev_goto (tgt := 147) dX7_copy_198 (by decide) ?_
                                  refine ev_keep (lv' := [(0, .ref 65), (1, .int (nI js)), (2, .int (nI ki)), (3, .int (nI jo)), (4, .int (nI kj)), (5, .int (nI kn)), (6, .int (nI (40 * js + ki))), (7, .int (nI (40 * jo + kj))), (8, .int (nI (k + 1)))]) [0, 1, 2, 3, 4, 5, 6, 7, 8] rfl ?_
                                  exact ih (k + 1) (am_sI σ1 82 (40 * jo + kj + k) (A 82 (40 * js + ki + k))) (by omega) (iv_M.cg (iv_M.up hI) (fun _ _ _ => by rw [s_mvF])) (fr_M.wr (by decide) hF) (by omega)
                            exact lp _ 0 σ (by omega) (iv_M.cg hI (fun _ _ _ => by rw [s_mv0])) fr_M.rf (Nat.lt_succ_self _)
                        · skip
                          have c12n : ¬ kn ≤ (mo - kj) := fun zz => c12 ((nI_leI (a := kn) (b := (mo - kj)) (by omega) (by omega)).mpr zz)
                          refine ev_bipush (v := (-12)) dX7_copy_124 (by decide) ?_
                          refine ev_reti dX7_copy_126 rfl (Nat.zero_le _) (Nat.zero_le _) ?_
                          exact am_qPi (by rw [sp_cpN hjs hjo, if_neg (fun z => z.elim c3 c4), if_neg (fun z => z c5), s_rowN emo hmo hkj hkn, decide_eq_false (show ¬ kn + kj ≤ mo by omega), Bool.and_false, if_neg (by decide)]) hI fr_M.rf
          · skip
            refine ev_bipush (v := (-13)) dX7_copy_59 (by decide) ?_
            refine ev_reti dX7_copy_61 rfl (Nat.zero_le _) (Nat.zero_le _) ?_
            exact am_qPi (by rw [sp_cpN hjs hjo, if_neg (fun z => z.elim c3 c4), if_pos c5]) hI fr_M.rf
        · skip
          refine ev_bipush (v := (-11)) dX7_copy_41 (by decide) ?_
          refine ev_reti dX7_copy_43 rfl (Nat.zero_le _) (Nat.zero_le _) ?_
          exact am_qPi (by rw [sp_cpN hjs hjo, if_pos (Or.inr c4)]) hI fr_M.rf
    · skip
      have hor : ¬ am_rg o 4 := fun q => h2 ((am_rgl (n := 4) (by decide)).mpr q)
      refine ev_if_ne (tgt := 21) dX7_copy_15 (by decide) (fun c => absurd (by decide) c) (fun _ => ?_)
      refine ev_bipush (v := (-2)) dX7_copy_18 (by decide) ?_
      refine ev_reti dX7_copy_20 rfl (Nat.zero_le _) (Nat.zero_le _) ?_
      exact am_qPi (by unfold sp_copy; rw [if_neg (by simp [am_inF (by omega) hor, am_inN hjs (by omega)])]) hI fr_M.rf
  · skip
    have hsr : ¬ am_rg s 4 := fun q => h1 ((am_rgl (n := 4) (by decide)).mpr q)
    refine ev_if_eq (tgt := 18) dX7_copy_6 (by decide) (fun _ => ?_) (fun c => absurd (by decide) c)
    refine ev_bipush (v := (-2)) dX7_copy_18 (by decide) ?_
    refine ev_reti dX7_copy_20 rfl (Nat.zero_le _) (Nat.zero_le _) ?_
    exact am_qPi (by unfold sp_copy; rw [if_neg (by simp [am_inF (by omega) hsr])]) hI fr_M.rf

theorem am_n0 {n : Nat} (h : n < 2 ^ 31) : nI n = 0 ↔ n = 0 := nI_eq (b := 0) h (by decide)
def s_tc (A : am_S) (s f i : Nat) : Nat := (s_tr A s f i).1
def s_ta (A : am_S) (s f i : Nat) : am_S := (s_tr A s f i).2
def s_te (A : am_S) (s f i : Nat) : Int32 × am_S := sp_learn (s_ta A s f i) (A 82 (40 * s + (f + 3 * i))) (A 82 (40 * s + (f + 3 * i) + 1)) (A 82 (40 * s + (f + 3 * i) + 2))
theorem s_tcY {A : am_S} {s f i : Nat} (h : ¬ (s_te A s f i).1 < 0) : nI (s_tc A s f i) + 1 = nI (s_tc A s f (i + 1)) := by
  rw [nI_1]
  show _ = nI (s_tc A s f i + (if 0 ≤ (s_te A s f i).1 then 1 else 0))
  rw [if_pos (Int32.not_lt.mp h)]
theorem s_tcN {A : am_S} {s f i : Nat} (h : (s_te A s f i).1 < 0) : nI (s_tc A s f i) + 0 = nI (s_tc A s f (i + 1)) := by
  rw [Int32.add_zero]
  show _ = nI (s_tc A s f i + (if 0 ≤ (s_te A s f i).1 then 1 else 0))
  rw [if_neg (Int32.not_le.mpr h), Nat.add_zero]
theorem sp_learn_x {A : am_S} {p i v : Int32} {a k : Nat} (h : a ≠ 70) : (sp_learn A p i v).2 a k = A a k := by
  unfold sp_learn
  split
  · split
    · exact am_ua h
    · rfl
  · rfl
theorem wf_learn {A : am_S} {p i v : Int32} (h : wf_A A) : wf_A (sp_learn A p i v).2 := by
  unfold sp_learn
  split
  · split
    · rename_i q
      rw [Bool.and_eq_true] at q
      exact wf_70 h ((am_inR (by omega)).mp q.2)
    · exact h
  · exact h
theorem s_ta_x {A : am_S} {s f a k : Nat} (h : a ≠ 70) : ∀ {i : Nat}, s_ta A s f i a k = A a k
  | 0 => rfl
  | i + 1 => (sp_learn_x h).trans (s_ta_x h)
theorem wf_ta {A : am_S} {s f : Nat} (h : wf_A A) : ∀ i, wf_A (s_ta A s f i)
  | 0 => h
  | i + 1 => wf_learn (wf_ta h i)
theorem s_ti_o {m f n i : Nat} (h : i < n) (h0 : i = 0 ∨ f + 3 * i ≤ m) (h1 : ¬ f + 3 * i + 3 ≤ m) : s_ti m f n = i := by
  unfold s_ti
  split <;> omega
theorem s_ti_n {m f n : Nat} (h0 : n = 0 ∨ f + 3 * n ≤ m) : s_ti m f n = n := by
  unfold s_ti
  split <;> omega
theorem sp_dbN {A : am_S} {s n m : Nat} {b f : Int32} (hs : s < 4) (hn : n < 13) (hb : am_in b 3 = true) (e : A 81 s = nI m) (hm : m ≤ 40) : sp_depthsBy A (nI s) b f (nI n) = (if A 80 s = -1 then (-11, A) else if A 80 s ≠ b then (-13, A) else if nI n = 0 then (0, A) else if f < 0 then (-12, A) else (if s_ti m (sN f) n = n then nI (s_tc A s (sN f) n) else -12, s_ta A s (sN f) (s_ti m (sN f) n))) := by
  unfold sp_depthsBy
  rw [am_inN hs (by omega), am_inN hn (by omega), hb, sN_n (show s < 2 ^ 31 by omega), sN_n (show n < 2 ^ 31 by omega), e, sN_n (show m < 2 ^ 31 by omega)]
  rfl
set_option maxHeartbeats 400000 in
set_option maxRecDepth 100000 in
theorem c_X7_depthsBy (G : am_G) (D : Nat) (A : am_S) (σ : am_M) (hA : wf_A A) (hI : iv_M A σ) (s b f n : Int32) : am_Mt G (D + 3) mX7_depthsBy [.ref 65, .int s, .int b, .int f, .int n] σ 0 0 (am_qP (sp_depthsBy A s b f n) σ) := by
  have b7 := wf_np7 hA
  have b8 := wf_nq8 hA
  have b6 := wf_nt6 hA
  have b61 := wf_nt1 hA
  have b160 := wf_tp160 hA
  have brl := wf_rlt hA
  refine am_of moX7_depthsBy (Nat.le_of_ble_eq_true rfl) ?_
  show am_Ev G mX7_depthsBy (am_R (D + 3) 0 0) 0 0 (am_qP (sp_depthsBy A s b f n) σ) 0 [(0, .ref 65), (1, .int s), (2, .int b), (3, .int f), (4, .int n)] [] σ 0 0
  refine ev_iload_n dX7_depthsBy_0 rfl rfl ?_
  refine ev_iconst (v := 0) dX7_depthsBy_1 (by decide) ?_
  refine ev_iconst (v := 3) dX7_depthsBy_2 (by decide) ?_
  refine ev_callS (as := [.int s, .int 0, .int 3]) (st := []) dX7_depthsBy_3 mfX7_in lk_X7_90 (c_X7_in G (D + 2) σ s 0 3) rfl rfl (Nat.le_of_ble_eq_true rfl) (am_hR (by omega) (by decide)) ⟨Nat.le_refl _, Nat.le_refl _⟩ ?_
  rintro _ _ (⟨h1, rfl, rfl⟩ | ⟨h1, rfl, rfl⟩)
  · skip
    obtain ⟨js, hjs, rfl⟩ := (am_rgl (n := 4) (by decide)).mp h1
    refine ev_if_eq (tgt := 29) dX7_depthsBy_6 (by decide) (fun c => absurd c (by decide)) (fun _ => ?_)
    refine ev_iload_n dX7_depthsBy_9 rfl rfl ?_
    refine ev_iconst (v := 0) dX7_depthsBy_10 (by decide) ?_
    refine ev_iconst (v := 2) dX7_depthsBy_11 (by decide) ?_
    refine ev_callS (as := [.int b, .int 0, .int 2]) (st := []) dX7_depthsBy_12 mfX7_in lk_X7_90 (c_X7_in G (D + 2) σ b 0 2) rfl rfl (Nat.le_of_ble_eq_true rfl) (am_hR (by omega) (by decide)) ⟨Nat.le_refl _, Nat.le_refl _⟩ ?_
    rintro _ _ (⟨h2, rfl, rfl⟩ | ⟨h2, rfl, rfl⟩)
    · skip
      have hb := (am_inR (n := 3) (by decide)).mpr ((am_rgl (n := 3) (by decide)).mp h2)
      refine ev_if_eq (tgt := 29) dX7_depthsBy_15 (by decide) (fun c => absurd c (by decide)) (fun _ => ?_)
      refine ev_iload dX7_depthsBy_18 rfl ?_
      refine ev_iconst (v := 0) dX7_depthsBy_20 (by decide) ?_
      refine ev_bipush (v := 12) dX7_depthsBy_21 (by decide) ?_
      refine ev_callS (as := [.int n, .int 0, .int 12]) (st := []) dX7_depthsBy_23 mfX7_in lk_X7_90 (c_X7_in G (D + 2) σ n 0 12) rfl rfl (Nat.le_of_ble_eq_true rfl) (am_hR (by omega) (by decide)) ⟨Nat.le_refl _, Nat.le_refl _⟩ ?_
      rintro _ _ (⟨h3, rfl, rfl⟩ | ⟨h3, rfl, rfl⟩)
      · skip
        obtain ⟨jn, hjn, rfl⟩ := (am_rgl (n := 13) (by decide)).mp h3
        refine ev_if_ne (tgt := 32) dX7_depthsBy_26 (by decide) (fun _ => ?_) (fun c => absurd c (by decide))
        obtain ⟨m, hm, em⟩ := am_sz hA hjs
        refine ev_aload_n dX7_depthsBy_32 rfl rfl ?_
        refine ev_getR (b := 80) dX7_depthsBy_33 fl_X7_52 (ly_k hI.ly 65 rfl) (ly_r hI.ly 43 rfl) ?_
        refine ev_iload_n dX7_depthsBy_36 rfl rfl ?_
        refine ev_iald (v := A 80 js) dX7_depthsBy_37 (ly_k hI.ly 80 rfl) (am_ixn (by omega) (by decide)) (hI.rd 80 js rfl) ?_
        refine ev_iconst (v := (-1)) dX7_depthsBy_38 (by decide) ?_
        refine ev_icmp_ne (tgt := 45) dX7_depthsBy_39 (by decide) (fun c4 => ?_) (fun c4 => ?_)
        · skip
          refine ev_aload_n dX7_depthsBy_45 rfl rfl ?_
          refine ev_getR (b := 80) dX7_depthsBy_46 fl_X7_52 (ly_k hI.ly 65 rfl) (ly_r hI.ly 43 rfl) ?_
          refine ev_iload_n dX7_depthsBy_49 rfl rfl ?_
          refine ev_iald (v := A 80 js) dX7_depthsBy_50 (ly_k hI.ly 80 rfl) (am_ixn (by omega) (by decide)) (hI.rd 80 js rfl) ?_
          refine ev_iload_n dX7_depthsBy_51 rfl rfl ?_
          refine ev_icmp_eq (tgt := 58) dX7_depthsBy_52 (by decide) (fun c5 => ?_) (fun c5 => ?_)
          · skip
            refine ev_iconst (v := 0) dX7_depthsBy_58 (by decide) ?_
            refine ev_istore (lv' := [(0, .ref 65), (1, .int (nI js)), (2, .int b), (3, .int f), (4, .int (nI jn)), (5, .int 0)]) dX7_depthsBy_59 (by decide) rfl ?_
            by_cases hneg : f < 0
            · skip
              refine ev_iconst (v := 0) dX7_depthsBy_61 (by decide) ?_
              refine ev_istore (lv' := [(0, .ref 65), (1, .int (nI js)), (2, .int b), (3, .int f), (4, .int (nI jn)), (5, .int 0), (6, .int 0)]) dX7_depthsBy_62 (by decide) rfl ?_
              refine ev_iload dX7_depthsBy_64 rfl ?_
              refine ev_iload dX7_depthsBy_66 rfl ?_
              refine ev_icmp_ge (tgt := 162) dX7_depthsBy_68 (by decide) (fun c6 => ?_) (fun c6 => ?_)
              · skip
                have c6n : jn ≤ 0 := (nI_leI (a := jn) (b := 0) (by omega) (by omega)).mp c6
                refine ev_iload dX7_depthsBy_162 rfl ?_
                refine ev_reti dX7_depthsBy_164 rfl (Nat.zero_le _) (Nat.zero_le _) ?_
                exact am_qPi (by rw [sp_dbN hjs hjn hb em hm, if_neg c4, if_neg (fun z => z c5), if_pos ((am_n0 (by omega)).mpr (by omega))]) hI fr_M.rf
              · skip
                have c6n : ¬ jn ≤ 0 := fun zz => c6 ((nI_leI (a := jn) (b := 0) (by omega) (by omega)).mpr zz)
                refine ev_iload_n dX7_depthsBy_71 rfl rfl ?_
                refine ev_iconst (v := 3) dX7_depthsBy_72 (by decide) ?_
                refine ev_iload dX7_depthsBy_73 rfl ?_
                refine ev_imul (v := 0) dX7_depthsBy_75 (by decide) ?_
                refine ev_iadd (v := f + 0) dX7_depthsBy_76 rfl ?_
                refine ev_istore (lv' := [(0, .ref 65), (1, .int (nI js)), (2, .int b), (3, .int f), (4, .int (nI jn)), (5, .int 0), (6, .int 0), (7, .int (f + 0))]) dX7_depthsBy_77 (by decide) rfl ?_
                refine ev_iload_n dX7_depthsBy_79 rfl rfl ?_
                refine ev_if_lt (tgt := 102) dX7_depthsBy_80 (by decide) (fun _ => ?_) (fun c => absurd (hneg) c)
                refine ev_bipush (v := (-12)) dX7_depthsBy_102 (by decide) ?_
                refine ev_reti dX7_depthsBy_104 rfl (Nat.zero_le _) (Nat.zero_le _) ?_
                exact am_qPi (by rw [sp_dbN hjs hjn hb em hm, if_neg c4, if_neg (fun z => z c5), if_neg (fun z => absurd ((am_n0 (by omega)).mp z) (by omega)), if_pos hneg]) hI fr_M.rf
            · skip
              obtain ⟨kf, hkf, rfl⟩ := nI_of hneg
              refine ev_iconst (v := 0) dX7_depthsBy_61 (by decide) ?_
              refine ev_istore (lv' := [(0, .ref 65), (1, .int (nI js)), (2, .int b), (3, .int (nI kf)), (4, .int (nI jn)), (5, .int 0), (6, .int 0)]) dX7_depthsBy_62 (by decide) rfl ?_
              have lp : ∀ (f : Nat) (i : Nat) (σ1 : am_M), (i ≤ jn) → (i = 0 ∨ kf + 3 * i ≤ m) → (iv_M (s_ta A js kf i) σ1) → (fr_M σ σ1) → jn - i < f → am_Ev G mX7_depthsBy (am_R (D + 3) 0 0) 0 0 (am_qP (sp_depthsBy A (nI js) b (nI kf) (nI jn)) σ) 64 [(0, .ref 65), (1, .int (nI js)), (2, .int b), (3, .int (nI kf)), (4, .int (nI jn)), (5, .int (nI (s_tc A js kf i))), (6, .int (nI i))] [] σ1 0 0 := by
                intro f
                induction f with
                | zero => intro i σ1 hi h3i hI hF hf; exact absurd hf (Nat.not_lt_zero _)
                | succ f ih =>
                  intro i σ1 hi h3i hI hF hf
                  refine ev_iload dX7_depthsBy_64 rfl ?_
                  refine ev_iload dX7_depthsBy_66 rfl ?_
                  refine ev_icmp_ge (tgt := 162) dX7_depthsBy_68 (by decide) (fun c7 => ?_) (fun c7 => ?_)
                  · skip
                    have c7n : jn ≤ i := (nI_leI (a := jn) (b := i) (by omega) (by omega)).mp c7
                    refine ev_iload dX7_depthsBy_162 rfl ?_
                    refine ev_reti dX7_depthsBy_164 rfl (Nat.zero_le _) (Nat.zero_le _) ?_
                    have e : i = jn := by omega
                    subst e
                    have et : s_ti m kf i = i := s_ti_n h3i
                    by_cases h0 : i = 0
                    · subst h0
                      exact am_qPi (by rw [sp_dbN hjs hjn hb em hm, if_neg c4, if_neg (fun z => z c5), if_pos (show nI 0 = 0 from rfl)]; rfl) hI hF
                    · exact am_qPi (by rw [sp_dbN hjs hjn hb em hm, if_neg c4, if_neg (fun z => z c5), if_neg (fun z => absurd ((am_n0 (by omega)).mp z) (by omega)), if_neg hneg, sN_n hkf, et, if_pos rfl]) hI hF
                  · skip
                    have c7n : ¬ jn ≤ i := fun zz => c7 ((nI_leI (a := jn) (b := i) (by omega) (by omega)).mpr zz)
                    refine ev_iload_n dX7_depthsBy_71 rfl rfl ?_
                    refine ev_iconst (v := 3) dX7_depthsBy_72 (by decide) ?_
                    refine ev_iload dX7_depthsBy_73 rfl ?_
                    refine ev_imul (v := nI (3 * i)) dX7_depthsBy_75 (pk_mul 3 i) ?_
                    refine ev_iadd (v := nI (kf + (3 * i))) dX7_depthsBy_76 (nI_add kf (3 * i)) ?_
                    refine ev_istore (lv' := [(0, .ref 65), (1, .int (nI js)), (2, .int b), (3, .int (nI kf)), (4, .int (nI jn)), (5, .int (nI (s_tc A js kf i))), (6, .int (nI i)), (7, .int (nI (kf + (3 * i))))]) dX7_depthsBy_77 (by decide) rfl ?_
                    refine ev_iload_n dX7_depthsBy_79 rfl rfl ?_
                    refine ev_if_lt (tgt := 102) dX7_depthsBy_80 (by decide) (fun c => absurd c (hneg)) (fun _ => ?_)
                    refine ev_iload dX7_depthsBy_83 rfl ?_
                    refine ev_iload_n dX7_depthsBy_85 rfl rfl ?_
                    refine ev_icmp_lt (tgt := 102) dX7_depthsBy_86 (by decide) (fun c => absurd c (fun z => absurd ((nI_ltI (by omega) (by omega)).mp z) (by omega))) (fun _ => ?_)
                    refine ev_iload dX7_depthsBy_89 rfl ?_
                    refine ev_aload_n dX7_depthsBy_91 rfl rfl ?_
                    refine ev_getR (b := 81) dX7_depthsBy_92 fl_X7_55 (ly_k hI.ly 65 rfl) (ly_r hI.ly 44 rfl) ?_
                    refine ev_iload_n dX7_depthsBy_95 rfl rfl ?_
                    refine ev_iald (v := nI m) dX7_depthsBy_96 (ly_k hI.ly 81 rfl) (am_ixn (by omega) (by decide)) ((hI.rd 81 js rfl).trans ((s_ta_x (by decide)).trans em)) ?_
                    refine ev_iconst (v := 3) dX7_depthsBy_97 (by decide) ?_
                    refine ev_isub (v := (nI m) - 3) dX7_depthsBy_98 rfl ?_
                    refine ev_icmp_le (tgt := 105) dX7_depthsBy_99 (by decide) (fun c8 => ?_) (fun c8 => ?_)
                    · skip
                      have hin : kf + 3 * i + 3 ≤ m := (am_le3 hm (by omega)).mp c8
                      refine ev_bipush (v := 40) dX7_depthsBy_105 (by decide) ?_
                      refine ev_iload_n dX7_depthsBy_107 rfl rfl ?_
                      refine ev_imul (v := nI (40 * js)) dX7_depthsBy_108 (pk_mul 40 js) ?_
                      refine ev_iload dX7_depthsBy_109 rfl ?_
                      refine ev_iadd (v := nI (40 * js + (kf + (3 * i)))) dX7_depthsBy_111 (nI_add (40 * js) (kf + (3 * i))) ?_
                      refine ev_istore (lv' := [(0, .ref 65), (1, .int (nI js)), (2, .int b), (3, .int (nI kf)), (4, .int (nI jn)), (5, .int (nI (s_tc A js kf i))), (6, .int (nI i)), (7, .int (nI (kf + (3 * i)))), (8, .int (nI (40 * js + (kf + (3 * i)))))]) dX7_depthsBy_112 (by decide) rfl ?_
                      refine ev_iload dX7_depthsBy_114 rfl ?_
                      refine ev_aload_n dX7_depthsBy_116 rfl rfl ?_
                      refine ev_aload_n dX7_depthsBy_117 rfl rfl ?_
                      refine ev_getR (b := 82) dX7_depthsBy_118 fl_X7_58 (ly_k hI.ly 65 rfl) (ly_r hI.ly 45 rfl) ?_
                      refine ev_iload dX7_depthsBy_121 rfl ?_
                      refine ev_iald (v := A 82 (40 * js + (kf + 3 * i))) dX7_depthsBy_123 (ly_k hI.ly 82 rfl) (am_ixn (by omega) (by decide)) ((hI.rd 82 (40 * js + (kf + (3 * i))) rfl).trans (s_ta_x (by decide))) ?_
                      refine ev_aload_n dX7_depthsBy_124 rfl rfl ?_
                      refine ev_getR (b := 82) dX7_depthsBy_125 fl_X7_58 (ly_k hI.ly 65 rfl) (ly_r hI.ly 45 rfl) ?_
                      refine ev_iload dX7_depthsBy_128 rfl ?_
                      refine ev_iconst (v := 1) dX7_depthsBy_130 (by decide) ?_
                      refine ev_iadd (v := nI (40 * js + (kf + (3 * i)) + 1)) dX7_depthsBy_131 (nI_1 _) ?_
                      refine ev_iald (v := A 82 (40 * js + (kf + 3 * i) + 1)) dX7_depthsBy_132 (ly_k hI.ly 82 rfl) (am_ixn (by omega) (by decide)) ((hI.rd 82 (40 * js + (kf + (3 * i)) + 1) rfl).trans (s_ta_x (by decide))) ?_
                      refine ev_aload_n dX7_depthsBy_133 rfl rfl ?_
                      refine ev_getR (b := 82) dX7_depthsBy_134 fl_X7_58 (ly_k hI.ly 65 rfl) (ly_r hI.ly 45 rfl) ?_
                      refine ev_iload dX7_depthsBy_137 rfl ?_
                      refine ev_iconst (v := 2) dX7_depthsBy_139 (by decide) ?_
                      refine ev_iadd (v := nI (40 * js + (kf + (3 * i)) + 2)) dX7_depthsBy_140 (nI_add (40 * js + (kf + (3 * i))) 2) ?_
                      refine ev_iald (v := A 82 (40 * js + (kf + 3 * i) + 2)) dX7_depthsBy_141 (ly_k hI.ly 82 rfl) (am_ixn (by omega) (by decide)) ((hI.rd 82 (40 * js + (kf + (3 * i)) + 2) rfl).trans (s_ta_x (by decide))) ?_
                      refine ev_callV (as := [.int (A 82 (40 * js + (kf + 3 * i))), .int (A 82 (40 * js + (kf + 3 * i) + 1)), .int (A 82 (40 * js + (kf + 3 * i) + 2))]) (st := [.int (nI (s_tc A js kf i))]) dX7_depthsBy_142 mfX7_learn lk_X7_283 (ly_k hI.ly 65 rfl) (by decide) rfl (c_X7_learn G D (s_ta A js kf i) σ1 (wf_ta hA i) hI (A 82 (40 * js + (kf + 3 * i))) (A 82 (40 * js + (kf + 3 * i) + 1)) (A 82 (40 * js + (kf + 3 * i) + 2))) rfl rfl (Nat.le_of_ble_eq_true rfl) (am_hR (by omega) (by decide)) ⟨Nat.le_refl _, Nat.le_refl _⟩ ?_
                      rintro _ σ9 ⟨rfl, hI9, hF9⟩
                      refine ev_if_lt (tgt := 152) dX7_depthsBy_145 (by decide) (fun c10 => ?_) (fun c10 => ?_)
                      · skip
                        refine ev_iconst (v := 0) dX7_depthsBy_152 (by decide) ?_
                        refine ev_iadd (v := nI (s_tc A js kf (i + 1))) dX7_depthsBy_153 (s_tcN c10) ?_
                        refine ev_istore (lv' := [(0, .ref 65), (1, .int (nI js)), (2, .int b), (3, .int (nI kf)), (4, .int (nI jn)), (5, .int (nI (s_tc A js kf (i + 1)))), (6, .int (nI i)), (7, .int (nI (kf + (3 * i)))), (8, .int (nI (40 * js + (kf + (3 * i)))))]) dX7_depthsBy_154 (by decide) rfl ?_
                        refine ev_iinc (lv' := [(0, .ref 65), (1, .int (nI js)), (2, .int b), (3, .int (nI kf)), (4, .int (nI jn)), (5, .int (nI (s_tc A js kf (i + 1)))), (6, .int (nI (i + 1))), (7, .int (nI (kf + (3 * i)))), (8, .int (nI (40 * js + (kf + (3 * i)))))]) (v := nI (i + 1)) dX7_depthsBy_156 rfl (nI_1 _) (by decide) rfl ?_
                        refine ev_goto (tgt := 64) dX7_depthsBy_159 (by decide) ?_
                        refine ev_keep (lv' := [(0, .ref 65), (1, .int (nI js)), (2, .int b), (3, .int (nI kf)), (4, .int (nI jn)), (5, .int (nI (s_tc A js kf (i + 1)))), (6, .int (nI (i + 1)))]) [0, 1, 2, 3, 4, 5, 6] rfl ?_
                        exact ih (i + 1) σ9 (by omega) (by omega) hI9 (fr_M.tr hF hF9) (by omega)
                      · skip
                        refine ev_iconst (v := 1) dX7_depthsBy_148 (by decide) ?_
                        refine ev_goto (tgt := 153) dX7_depthsBy_149 (by decide) ?_
                        refine ev_iadd (v := nI (s_tc A js kf (i + 1))) dX7_depthsBy_153 (s_tcY c10) ?_
                        refine ev_istore (lv' := [(0, .ref 65), (1, .int (nI js)), (2, .int b), (3, .int (nI kf)), (4, .int (nI jn)), (5, .int (nI (s_tc A js kf (i + 1)))), (6, .int (nI i)), (7, .int (nI (kf + (3 * i)))), (8, .int (nI (40 * js + (kf + (3 * i)))))]) dX7_depthsBy_154 (by decide) rfl ?_
                        refine ev_iinc (lv' := [(0, .ref 65), (1, .int (nI js)), (2, .int b), (3, .int (nI kf)), (4, .int (nI jn)), (5, .int (nI (s_tc A js kf (i + 1)))), (6, .int (nI (i + 1))), (7, .int (nI (kf + (3 * i)))), (8, .int (nI (40 * js + (kf + (3 * i)))))]) (v := nI (i + 1)) dX7_depthsBy_156 rfl (nI_1 _) (by decide) rfl ?_
                        refine ev_goto (tgt := 64) dX7_depthsBy_159 (by decide) ?_
                        refine ev_keep (lv' := [(0, .ref 65), (1, .int (nI js)), (2, .int b), (3, .int (nI kf)), (4, .int (nI jn)), (5, .int (nI (s_tc A js kf (i + 1)))), (6, .int (nI (i + 1)))]) [0, 1, 2, 3, 4, 5, 6] rfl ?_
                        exact ih (i + 1) σ9 (by omega) (by omega) hI9 (fr_M.tr hF hF9) (by omega)
                    · skip
                      have hout : ¬ kf + 3 * i + 3 ≤ m := fun z => c8 ((am_le3 hm (by omega)).mpr z)
                      refine ev_bipush (v := (-12)) dX7_depthsBy_102 (by decide) ?_
                      refine ev_reti dX7_depthsBy_104 rfl (Nat.zero_le _) (Nat.zero_le _) ?_
                      have et : s_ti m kf jn = i := s_ti_o (by omega) h3i hout
                      exact am_qPi (by rw [sp_dbN hjs hjn hb em hm, if_neg c4, if_neg (fun z => z c5), if_neg (fun z => absurd ((am_n0 (by omega)).mp z) (by omega)), if_neg hneg, sN_n hkf, et, if_neg (by omega)]) hI hF
              exact lp _ 0 σ (by omega) (Or.inl rfl) hI fr_M.rf (Nat.lt_succ_self _)
          · skip
            refine ev_bipush (v := (-13)) dX7_depthsBy_55 (by decide) ?_
            refine ev_reti dX7_depthsBy_57 rfl (Nat.zero_le _) (Nat.zero_le _) ?_
            exact am_qPi (by rw [sp_dbN hjs hjn hb em hm, if_neg c4, if_pos c5]) hI fr_M.rf
        · skip
          refine ev_bipush (v := (-11)) dX7_depthsBy_42 (by decide) ?_
          refine ev_reti dX7_depthsBy_44 rfl (Nat.zero_le _) (Nat.zero_le _) ?_
          exact am_qPi (by rw [sp_dbN hjs hjn hb em hm, if_pos c4]) hI fr_M.rf
      · skip
        have hnr : ¬ am_rg n 13 := fun q => h3 ((am_rgl (n := 13) (by decide)).mpr q)
        refine ev_if_ne (tgt := 32) dX7_depthsBy_26 (by decide) (fun c => absurd (by decide) c) (fun _ => ?_)
        refine ev_bipush (v := (-2)) dX7_depthsBy_29 (by decide) ?_
        refine ev_reti dX7_depthsBy_31 rfl (Nat.zero_le _) (Nat.zero_le _) ?_
        exact am_qPi (by unfold sp_depthsBy; rw [if_neg (by simp [am_inF (by omega) hnr, hb, am_inN hjs (by omega)])]) hI fr_M.rf
    · skip
      have hb := am_inF (n := 3) (by decide) (fun q => h2 ((am_rgl (n := 3) (by decide)).mpr q))
      refine ev_if_eq (tgt := 29) dX7_depthsBy_15 (by decide) (fun _ => ?_) (fun c => absurd (by decide) c)
      refine ev_bipush (v := (-2)) dX7_depthsBy_29 (by decide) ?_
      refine ev_reti dX7_depthsBy_31 rfl (Nat.zero_le _) (Nat.zero_le _) ?_
      exact am_qPi (by unfold sp_depthsBy; rw [if_neg (by simp [hb, am_inN hjs (by omega)])]) hI fr_M.rf
  · skip
    have hsr : ¬ am_rg s 4 := fun q => h1 ((am_rgl (n := 4) (by decide)).mpr q)
    refine ev_if_eq (tgt := 29) dX7_depthsBy_6 (by decide) (fun _ => ?_) (fun c => absurd (by decide) c)
    refine ev_bipush (v := (-2)) dX7_depthsBy_29 (by decide) ?_
    refine ev_reti dX7_depthsBy_31 rfl (Nat.zero_le _) (Nat.zero_le _) ?_
    exact am_qPi (by unfold sp_depthsBy; rw [if_neg (by simp [am_inF (by omega) hsr])]) hI fr_M.rf

