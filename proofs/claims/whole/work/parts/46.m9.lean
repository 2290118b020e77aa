/-! the reference: alike, changes of places -/
theorem s_loT {a b : Nat} : s_lo a b true = lN (a / Nat.gcd a b) := rfl
theorem s_loF {a b : Nat} : s_lo a b false = lN (b / Nat.gcd a b) := rfl
theorem s_lo0 {a b : Nat} {w : Int32} (h : a = 0) (hb : 0 < b) (hw : w = 0 ∨ w = 1) : w.toInt64 = s_lo a b (decide (w = 0)) := by
  subst h
  rcases hw with rfl | rfl
  · show _ = lN (0 / Nat.gcd 0 b)
    rw [Nat.zero_div]
    rfl
  · show _ = lN (b / Nat.gcd 0 b)
    rw [Nat.gcd_zero_left, Nat.div_self hb]
    rfl
set_option maxHeartbeats 400000 in
set_option maxRecDepth 100000 in
theorem c_X7_lowest (G : am_G) (D : Nat) (σ : am_M) (a b : Nat) (w : Int32) (ha : a < 2 ^ 31) (hb : b < 2 ^ 31) (hb0 : 0 < b) (hw : w = 0 ∨ w = 1) : am_Mt G D mX7_lowest [.long (lN a), .long (lN b), .int w] σ 0 0 (am_q (.long (s_lo a b (decide (w = 0)))) σ) := by
  refine am_of moX7_lowest (Nat.le_of_ble_eq_true rfl) ?_
  show am_Ev G mX7_lowest (am_R D 0 0) 0 0 (am_q (.long (s_lo a b (decide (w = 0)))) σ) 0 [(0, .long (lN a)), (2, .long (lN b)), (4, .int w)] [] σ 0 0
  refine ev_lload_n dX7_lowest_0 rfl rfl ?_
  refine ev_lconst (v := 0) dX7_lowest_1 (by decide) ?_
  refine ev_lcmp (v := lg_cmp (lN a) 0) dX7_lowest_2 rfl ?_
  refine ev_if_ne (tgt := 10) dX7_lowest_3 (by decide) (fun c1 => ?_) (fun c1 => ?_)
  · skip
    have ha0 : ¬ a = 0 := fun z => c1 ((lg_ne0 (by omega)).mpr z)
    refine ev_lload_n dX7_lowest_10 rfl rfl ?_
    refine ev_lstore (lv' := [(0, .long (lN a)), (2, .long (lN b)), (4, .int w), (5, .long (lN a))]) dX7_lowest_11 (by decide) rfl ?_
    refine ev_lload_n dX7_lowest_13 rfl rfl ?_
    refine ev_lstore (lv' := [(0, .long (lN a)), (2, .long (lN b)), (4, .int w), (5, .long (lN a)), (7, .long (lN b))]) dX7_lowest_14 (by decide) rfl ?_
    have lp : ∀ (f : Nat) (x : Nat) (y : Nat), (Nat.gcd x y = Nat.gcd a b) → (0 < x) → (x < 2 ^ 31) → (y < 2 ^ 31) → y < f → am_Ev G mX7_lowest (am_R D 0 0) 0 0 (am_q (.long (s_lo a b (decide (w = 0)))) σ) 16 [(0, .long (lN a)), (2, .long (lN b)), (4, .int w), (5, .long (lN x)), (7, .long (lN y))] [] σ 0 0 := by
      intro f
      induction f with
      | zero => intro x y hg hx0 hx hy hf; exact absurd hf (Nat.not_lt_zero _)
      | succ f ih =>
        intro x y hg hx0 hx hy hf
        refine ev_lload dX7_lowest_16 rfl ?_
        refine ev_lconst (v := 0) dX7_lowest_18 (by decide) ?_
        refine ev_lcmp (v := lg_cmp (lN y) 0) dX7_lowest_19 rfl ?_
        refine ev_if_eq (tgt := 41) dX7_lowest_20 (by decide) (fun c2 => ?_) (fun c2 => ?_)
        · skip
          have hy0 : y = 0 := (lg_ne0 (by omega)).mp c2
          refine ev_iload dX7_lowest_41 rfl ?_
          refine ev_if_ne (tgt := 50) dX7_lowest_43 (by decide) (fun c3 => ?_) (fun c3 => ?_)
          · skip
            refine ev_lload_n dX7_lowest_50 rfl rfl ?_
            refine ev_lload dX7_lowest_51 rfl ?_
            refine ev_ldiv (v := lN (b / x)) dX7_lowest_53 (fun z => by have := (pk_lEQ (a := x) (b := 0) (by omega) (by decide)).mp z; omega) (pk_lDiv (by omega) (by omega) (by omega)) ?_
            refine ev_retl dX7_lowest_54 rfl (Nat.zero_le _) (Nat.zero_le _) ?_
            have e : x = Nat.gcd a b := by rw [← hg, hy0, Nat.gcd_zero_right]
            subst e
            exact ⟨by rw [decide_eq_false c3]; rfl, rfl⟩
          · skip
            refine ev_lload_n dX7_lowest_46 rfl rfl ?_
            refine ev_goto (tgt := 51) dX7_lowest_47 (by decide) ?_
            refine ev_lload dX7_lowest_51 rfl ?_
            refine ev_ldiv (v := lN (a / x)) dX7_lowest_53 (fun z => by have := (pk_lEQ (a := x) (b := 0) (by omega) (by decide)).mp z; omega) (pk_lDiv (by omega) (by omega) (by omega)) ?_
            refine ev_retl dX7_lowest_54 rfl (Nat.zero_le _) (Nat.zero_le _) ?_
            have e : x = Nat.gcd a b := by rw [← hg, hy0, Nat.gcd_zero_right]
            subst e
            exact ⟨by rw [c3]; rfl, rfl⟩
        · skip
          have hy0 : ¬ y = 0 := fun z => c2 ((lg_ne0 (by omega)).mpr z)
          have hmod : x % y < y := Nat.mod_lt _ (by omega)
          have hgn : Nat.gcd y (x % y) = Nat.gcd a b := by rw [← hg, Nat.gcd_comm x y, Nat.gcd_rec y x, Nat.gcd_comm]
          refine ev_lload dX7_lowest_23 rfl ?_
          refine ev_lload dX7_lowest_25 rfl ?_
          refine ev_lrem (v := lN (x % y)) dX7_lowest_27 (fun z => hy0 ((pk_lEQ (by omega) (by decide)).mp z)) (pk_lRem (by omega) (by omega) (by omega)) ?_
          refine ev_lstore (lv' := [(0, .long (lN a)), (2, .long (lN b)), (4, .int w), (5, .long (lN x)), (7, .long (lN y)), (9, .long (lN (x % y)))]) dX7_lowest_28 (by decide) rfl ?_
          refine ev_lload dX7_lowest_30 rfl ?_
          refine ev_lstore (lv' := [(0, .long (lN a)), (2, .long (lN b)), (4, .int w), (5, .long (lN y)), (7, .long (lN y)), (9, .long (lN (x % y)))]) dX7_lowest_32 (by decide) rfl ?_
          refine ev_lload dX7_lowest_34 rfl ?_
          refine ev_lstore (lv' := [(0, .long (lN a)), (2, .long (lN b)), (4, .int w), (5, .long (lN y)), (7, .long (lN (x % y))), (9, .long (lN (x % y)))]) dX7_lowest_36 (by decide) rfl ?_
          refine ev_goto (tgt := 16) dX7_lowest_38 (by decide) ?_
          refine ev_keep (lv' := [(0, .long (lN a)), (2, .long (lN b)), (4, .int w), (5, .long (lN y)), (7, .long (lN (x % y)))]) [0, 2, 4, 5, 7] rfl ?_
          exact ih y (x % y) hgn (by omega) (by omega) (by omega) (by omega)
    exact lp _ a b rfl (by omega) (by omega) (by omega) (Nat.lt_succ_self _)
  · skip
    have ha0 : a = 0 := (lg_ne0 (by omega)).mp c1
    refine ev_iload dX7_lowest_6 rfl ?_
    refine ev_i2l (v := (w : Int32).toInt64) dX7_lowest_8 rfl ?_
    refine ev_retl dX7_lowest_9 rfl (Nat.zero_le _) (Nat.zero_le _) ?_
    exact ⟨by rw [s_lo0 ha0 hb0 hw], rfl⟩

set_option maxHeartbeats 400000 in
set_option maxRecDepth 100000 in
theorem c_X7_alike (G : am_G) (D : Nat) (A : am_S) (σ : am_M) (hA : wf_A A) (hI : iv_M A σ) (a b w : Int32) : am_Mt G (D + 7) mX7_alike [.ref 65, .int a, .int b, .int w] σ 0 0 (am_qM A (.long (sp_alike A a b w)) σ) := by
  have b7 := wf_np7 hA
  have b8 := wf_nq8 hA
  have b6 := wf_nt6 hA
  have b61 := wf_nt1 hA
  have b160 := wf_tp160 hA
  have brl := wf_rlt hA
  refine am_of moX7_alike (Nat.le_of_ble_eq_true rfl) ?_
  show am_Ev G mX7_alike (am_R (D + 7) 0 0) 0 0 (am_qM A (.long (sp_alike A a b w)) σ) 0 [(0, .ref 65), (1, .int a), (2, .int b), (3, .int w)] [] σ 0 0
  refine ev_iload_n dX7_alike_0 rfl rfl ?_
  refine ev_callS (as := [.int a]) (st := []) dX7_alike_1 mfX7_isTable lk_X7_183 (c_X7_isTable G (D + 5) σ a) rfl rfl (Nat.le_of_ble_eq_true rfl) (am_hR (by omega) (by decide)) ⟨Nat.le_refl _, Nat.le_refl _⟩ ?_
  rintro _ _ (⟨⟨j1, h1, rfl⟩, rfl, rfl⟩ | ⟨h1, rfl, rfl⟩)
  · skip
    refine ev_if_eq (tgt := 28) dX7_alike_4 (by decide) (fun c => absurd c (by decide)) (fun _ => ?_)
    refine ev_iload_n dX7_alike_7 rfl rfl ?_
    refine ev_callS (as := [.int b]) (st := []) dX7_alike_8 mfX7_isTable lk_X7_183 (c_X7_isTable G (D + 5) σ b) rfl rfl (Nat.le_of_ble_eq_true rfl) (am_hR (by omega) (by decide)) ⟨Nat.le_refl _, Nat.le_refl _⟩ ?_
    rintro _ _ (⟨⟨j2, h2, rfl⟩, rfl, rfl⟩ | ⟨h2, rfl, rfl⟩)
    · skip
      refine ev_if_eq (tgt := 28) dX7_alike_11 (by decide) (fun c => absurd c (by decide)) (fun _ => ?_)
      refine ev_iload_n dX7_alike_14 rfl rfl ?_
      refine ev_iload_n dX7_alike_15 rfl rfl ?_
      refine ev_icmp_eq (tgt := 28) dX7_alike_16 (by decide) (fun c3 => ?_) (fun c3 => ?_)
      · skip
        have c3n : j1 = j2 := (nI_eq (a := j1) (b := j2) (by omega) (by omega)).mp c3
        refine ev_ldc2 dX7_alike_28 ct_X7_245 ?_
        refine ev_retl dX7_alike_31 rfl (Nat.zero_le _) (Nat.zero_le _) ?_
        refine ⟨?_, hI, fr_M.rf⟩
        simp [sp_alike, am_inN h1 (by omega), am_inN h2 (by omega), sN_n (show j1 < 2 ^ 31 by omega), sN_n (show j2 < 2 ^ 31 by omega), c3, c3n]
      · skip
        have c3n : ¬ j1 = j2 := fun zz => c3 ((nI_eq (a := j1) (b := j2) (by omega) (by omega)).mpr zz)
        refine ev_iload_n dX7_alike_19 rfl rfl ?_
        refine ev_iconst (v := 0) dX7_alike_20 (by decide) ?_
        refine ev_iconst (v := 1) dX7_alike_21 (by decide) ?_
        refine ev_callS (as := [.int w, .int 0, .int 1]) (st := []) dX7_alike_22 mfX7_in lk_X7_90 (c_X7_in G (D + 6) σ w 0 1) rfl rfl (Nat.le_of_ble_eq_true rfl) (am_hR (by omega) (by decide)) ⟨Nat.le_refl _, Nat.le_refl _⟩ ?_
        rintro _ _ (⟨h4, rfl, rfl⟩ | ⟨h4, rfl, rfl⟩)
        · skip
          rcases am_v1 h4 with rfl | rfl
          · skip
            refine ev_if_ne (tgt := 32) dX7_alike_25 (by decide) (fun _ => ?_) (fun c => absurd c (by decide))
            refine ev_aload_n dX7_alike_32 rfl rfl ?_
            refine ev_callV (as := []) (st := []) dX7_alike_33 mfX7_all lk_X7_211 (ly_k hI.ly 65 rfl) (by decide) rfl (c_X7_all G (D + 6) A σ hA hI ) rfl rfl (Nat.le_of_ble_eq_true rfl) (am_hR (by omega) (by decide)) ⟨Nat.le_refl _, Nat.le_refl _⟩ ?_
            rintro _ _ ⟨rfl, rfl⟩
            refine ev_aload_n dX7_alike_36 rfl rfl ?_
            refine ev_iload_n dX7_alike_37 rfl rfl ?_
            refine ev_callV (as := [.int (nI j1)]) (st := [.int (nI (2 ^ s_nq A - 1))]) dX7_alike_38 mfX7_rightOf lk_X7_220 (ly_k hI.ly 65 rfl) (by decide) rfl (c_X7_rightOf G D A σ hA hI j1) rfl rfl (Nat.le_of_ble_eq_true rfl) (am_hR (by omega) (by decide)) ⟨Nat.le_refl _, Nat.le_refl _⟩ ?_
            rintro _ σ5 ⟨rfl, hI5, hF5⟩
            refine ev_aload_n dX7_alike_41 rfl rfl ?_
            refine ev_iload_n dX7_alike_42 rfl rfl ?_
            refine ev_callV (as := [.int (nI j2)]) (st := [.int (nI (s_rs A j1)), .int (nI (2 ^ s_nq A - 1))]) dX7_alike_43 mfX7_rightOf lk_X7_220 (ly_k hI5.ly 65 rfl) (by decide) rfl (c_X7_rightOf G D A σ5 hA hI5 j2) rfl rfl (Nat.le_of_ble_eq_true rfl) (am_hR (by omega) (by decide)) ⟨Nat.le_refl _, Nat.le_refl _⟩ ?_
            rintro _ σ6 ⟨rfl, hI6, hF6⟩
            refine ev_ior (v := (nI (s_rs A j1)) ||| (nI (s_rs A j2))) dX7_alike_46 rfl ?_
            refine ev_iconst (v := (-1)) dX7_alike_47 (by decide) ?_
            refine ev_ixor (v := ((nI (s_rs A j1)) ||| (nI (s_rs A j2))) ^^^ (-1)) dX7_alike_48 rfl ?_
            refine ev_iand (v := nI (s_al A j1 j2 true)) dX7_alike_49 (s_alO b8) ?_
            refine ev_istore (lv' := [(0, .ref 65), (1, .int (nI j1)), (2, .int (nI j2)), (3, .int 0), (4, .int (nI (s_al A j1 j2 true)))]) dX7_alike_50 (by decide) rfl ?_
            refine ev_aload_n dX7_alike_52 rfl rfl ?_
            refine ev_callV (as := []) (st := []) dX7_alike_53 mfX7_all lk_X7_211 (ly_k hI6.ly 65 rfl) (by decide) rfl (c_X7_all G (D + 6) A σ6 hA hI6 ) rfl rfl (Nat.le_of_ble_eq_true rfl) (am_hR (by omega) (by decide)) ⟨Nat.le_refl _, Nat.le_refl _⟩ ?_
            rintro _ _ ⟨rfl, rfl⟩
            refine ev_aload_n dX7_alike_56 rfl rfl ?_
            refine ev_iload_n dX7_alike_57 rfl rfl ?_
            refine ev_callV (as := [.int (nI j1)]) (st := [.int (nI (2 ^ s_nq A - 1))]) dX7_alike_58 mfX7_rightOf lk_X7_220 (ly_k hI6.ly 65 rfl) (by decide) rfl (c_X7_rightOf G D A σ6 hA hI6 j1) rfl rfl (Nat.le_of_ble_eq_true rfl) (am_hR (by omega) (by decide)) ⟨Nat.le_refl _, Nat.le_refl _⟩ ?_
            rintro _ σ7 ⟨rfl, hI7, hF7⟩
            refine ev_aload_n dX7_alike_61 rfl rfl ?_
            refine ev_iload_n dX7_alike_62 rfl rfl ?_
            refine ev_callV (as := [.int (nI j2)]) (st := [.int (nI (s_rs A j1)), .int (nI (2 ^ s_nq A - 1))]) dX7_alike_63 mfX7_rightOf lk_X7_220 (ly_k hI7.ly 65 rfl) (by decide) rfl (c_X7_rightOf G D A σ7 hA hI7 j2) rfl rfl (Nat.le_of_ble_eq_true rfl) (am_hR (by omega) (by decide)) ⟨Nat.le_refl _, Nat.le_refl _⟩ ?_
            rintro _ σ8 ⟨rfl, hI8, hF8⟩
            refine ev_iand (v := (nI (s_rs A j1)) &&& (nI (s_rs A j2))) dX7_alike_66 rfl ?_
            refine ev_iconst (v := (-1)) dX7_alike_67 (by decide) ?_
            refine ev_ixor (v := ((nI (s_rs A j1)) &&& (nI (s_rs A j2))) ^^^ (-1)) dX7_alike_68 rfl ?_
            refine ev_iand (v := nI (s_al A j1 j2 false)) dX7_alike_69 (s_alA b8) ?_
            refine ev_istore (lv' := [(0, .ref 65), (1, .int (nI j1)), (2, .int (nI j2)), (3, .int 0), (4, .int (nI (s_al A j1 j2 true))), (5, .int (nI (s_al A j1 j2 false)))]) dX7_alike_70 (by decide) rfl ?_
            have hal : s_al A j1 j2 false < 2 ^ 8 := Nat.lt_of_lt_of_le (mk_lt _ _) (Nat.pow_le_pow_right (by decide) b8)
            have hal2 : s_al A j1 j2 true < 2 ^ 8 := Nat.lt_of_lt_of_le (mk_lt _ _) (Nat.pow_le_pow_right (by decide) b8)
            refine ev_iload dX7_alike_72 rfl ?_
            refine ev_if_ne (tgt := 83) dX7_alike_74 (by decide) (fun c9 => ?_) (fun c9 => ?_)
            · skip
              have c9n : ¬ (s_al A j1 j2 false) = 0 := fun zz => c9 ((nI_eq (a := (s_al A j1 j2 false)) (b := 0) (by omega) (by omega)).mpr zz)
              refine ev_iload dX7_alike_83 rfl ?_
              refine ev_callS (as := [.int (nI (s_al A j1 j2 true))]) (st := []) dX7_alike_85 mfX7_ones lk_X7_238 (c_X7_ones G (D + 6) σ8 (s_al A j1 j2 true) (by omega)) rfl rfl (Nat.le_of_ble_eq_true rfl) (am_hR (by omega) (by decide)) ⟨Nat.le_refl _, Nat.le_refl _⟩ ?_
              rintro _ _ ⟨rfl, rfl⟩
              have hon9 := s_on12 (s_al A j1 j2 true)
              refine ev_i2l (v := lN (s_on (s_al A j1 j2 true))) dX7_alike_88 (nI_l (by omega)) ?_
              refine ev_iload dX7_alike_89 rfl ?_
              refine ev_callS (as := [.int (nI (s_al A j1 j2 false))]) (st := [.long (lN (s_on (s_al A j1 j2 true)))]) dX7_alike_91 mfX7_ones lk_X7_238 (c_X7_ones G (D + 6) σ8 (s_al A j1 j2 false) (by omega)) rfl rfl (Nat.le_of_ble_eq_true rfl) (am_hR (by omega) (by decide)) ⟨Nat.le_refl _, Nat.le_refl _⟩ ?_
              rintro _ _ ⟨rfl, rfl⟩
              have hon9 := s_on12 (s_al A j1 j2 false)
              refine ev_i2l (v := lN (s_on (s_al A j1 j2 false))) dX7_alike_94 (nI_l (by omega)) ?_
              refine ev_iload_n dX7_alike_95 rfl rfl ?_
              have hpos : ¬ s_on (s_al A j1 j2 false) = 0 := fun z => c9n (s_on0 (by omega) z)
              refine ev_callS (as := [.long (lN (s_on (s_al A j1 j2 true))), .long (lN (s_on (s_al A j1 j2 false))), .int 0]) (st := []) dX7_alike_96 mfX7_lowest lk_X7_247 (c_X7_lowest G (D + 6) σ8 (s_on (s_al A j1 j2 true)) (s_on (s_al A j1 j2 false)) 0 (by omega) (by omega) (by omega) (Or.inl rfl)) rfl rfl (Nat.le_of_ble_eq_true rfl) (am_hR (by omega) (by decide)) ⟨Nat.le_refl _, Nat.le_refl _⟩ ?_
              rintro _ _ ⟨rfl, rfl⟩
              refine ev_retl dX7_alike_99 rfl (Nat.zero_le _) (Nat.zero_le _) ?_
              refine ⟨?_, hI8, (fr_M.tr (fr_M.tr (fr_M.tr (fr_M.tr fr_M.rf hF5) hF6) hF7) hF8)⟩
              simp [sp_alike, am_inN h1 (by omega), am_inN h2 (by omega), sN_n (show j1 < 2 ^ 31 by omega), sN_n (show j2 < 2 ^ 31 by omega), c3, c3n, c9, c9n]
            · skip
              have c9n : (s_al A j1 j2 false) = 0 := (nI_eq (a := (s_al A j1 j2 false)) (b := 0) (by omega) (by omega)).mp c9
              refine ev_ldc2 dX7_alike_77 ct_X7_245 ?_
              refine ev_goto (tgt := 99) dX7_alike_80 (by decide) ?_
              refine ev_retl dX7_alike_99 rfl (Nat.zero_le _) (Nat.zero_le _) ?_
              refine ⟨?_, hI8, (fr_M.tr (fr_M.tr (fr_M.tr (fr_M.tr fr_M.rf hF5) hF6) hF7) hF8)⟩
              simp [sp_alike, am_inN h1 (by omega), am_inN h2 (by omega), sN_n (show j1 < 2 ^ 31 by omega), sN_n (show j2 < 2 ^ 31 by omega), c3, c3n, c9, c9n]
          · skip
            refine ev_if_ne (tgt := 32) dX7_alike_25 (by decide) (fun _ => ?_) (fun c => absurd c (by decide))
            refine ev_aload_n dX7_alike_32 rfl rfl ?_
            refine ev_callV (as := []) (st := []) dX7_alike_33 mfX7_all lk_X7_211 (ly_k hI.ly 65 rfl) (by decide) rfl (c_X7_all G (D + 6) A σ hA hI ) rfl rfl (Nat.le_of_ble_eq_true rfl) (am_hR (by omega) (by decide)) ⟨Nat.le_refl _, Nat.le_refl _⟩ ?_
            rintro _ _ ⟨rfl, rfl⟩
            refine ev_aload_n dX7_alike_36 rfl rfl ?_
            refine ev_iload_n dX7_alike_37 rfl rfl ?_
            refine ev_callV (as := [.int (nI j1)]) (st := [.int (nI (2 ^ s_nq A - 1))]) dX7_alike_38 mfX7_rightOf lk_X7_220 (ly_k hI.ly 65 rfl) (by decide) rfl (c_X7_rightOf G D A σ hA hI j1) rfl rfl (Nat.le_of_ble_eq_true rfl) (am_hR (by omega) (by decide)) ⟨Nat.le_refl _, Nat.le_refl _⟩ ?_
            rintro _ σ10 ⟨rfl, hI10, hF10⟩
            refine ev_aload_n dX7_alike_41 rfl rfl ?_
            refine ev_iload_n dX7_alike_42 rfl rfl ?_
            refine ev_callV (as := [.int (nI j2)]) (st := [.int (nI (s_rs A j1)), .int (nI (2 ^ s_nq A - 1))]) dX7_alike_43 mfX7_rightOf lk_X7_220 (ly_k hI10.ly 65 rfl) (by decide) rfl (c_X7_rightOf G D A σ10 hA hI10 j2) rfl rfl (Nat.le_of_ble_eq_true rfl) (am_hR (by omega) (by decide)) ⟨Nat.le_refl _, Nat.le_refl _⟩ ?_
            rintro _ σ11 ⟨rfl, hI11, hF11⟩
            refine ev_ior (v := (nI (s_rs A j1)) ||| (nI (s_rs A j2))) dX7_alike_46 rfl ?_
            refine ev_iconst (v := (-1)) dX7_alike_47 (by decide) ?_
            refine ev_ixor (v := ((nI (s_rs A j1)) ||| (nI (s_rs A j2))) ^^^ (-1)) dX7_alike_48 rfl ?_
            refine ev_iand (v := nI (s_al A j1 j2 true)) dX7_alike_49 (s_alO b8) ?_
            refine ev_istore (lv' := [(0, .ref 65), (1, .int (nI j1)), (2, .int (nI j2)), (3, .int 1), (4, .int (nI (s_al A j1 j2 true)))]) dX7_alike_50 (by decide) rfl ?_
            refine ev_aload_n dX7_alike_52 rfl rfl ?_
            refine ev_callV (as := []) (st := []) dX7_alike_53 mfX7_all lk_X7_211 (ly_k hI11.ly 65 rfl) (by decide) rfl (c_X7_all G (D + 6) A σ11 hA hI11 ) rfl rfl (Nat.le_of_ble_eq_true rfl) (am_hR (by omega) (by decide)) ⟨Nat.le_refl _, Nat.le_refl _⟩ ?_
            rintro _ _ ⟨rfl, rfl⟩
            refine ev_aload_n dX7_alike_56 rfl rfl ?_
            refine ev_iload_n dX7_alike_57 rfl rfl ?_
            refine ev_callV (as := [.int (nI j1)]) (st := [.int (nI (2 ^ s_nq A - 1))]) dX7_alike_58 mfX7_rightOf lk_X7_220 (ly_k hI11.ly 65 rfl) (by decide) rfl (c_X7_rightOf G D A σ11 hA hI11 j1) rfl rfl (Nat.le_of_ble_eq_true rfl) (am_hR (by omega) (by decide)) ⟨Nat.le_refl _, Nat.le_refl _⟩ ?_
            rintro _ σ12 ⟨rfl, hI12, hF12⟩
            refine ev_aload_n dX7_alike_61 rfl rfl ?_
            refine ev_iload_n dX7_alike_62 rfl rfl ?_
            refine ev_callV (as := [.int (nI j2)]) (st := [.int (nI (s_rs A j1)), .int (nI (2 ^ s_nq A - 1))]) dX7_alike_63 mfX7_rightOf lk_X7_220 (ly_k hI12.ly 65 rfl) (by decide) rfl (c_X7_rightOf G D A σ12 hA hI12 j2) rfl rfl (Nat.le_of_ble_eq_true rfl) (am_hR (by omega) (by decide)) ⟨Nat.le_refl _, Nat.le_refl _⟩ ?_
            rintro _ σ13 ⟨rfl, hI13, hF13⟩
            refine ev_iand (v := (nI (s_rs A j1)) &&& (nI (s_rs A j2))) dX7_alike_66 rfl ?_
            refine ev_iconst (v := (-1)) dX7_alike_67 (by decide) ?_
            refine ev_ixor (v := ((nI (s_rs A j1)) &&& (nI (s_rs A j2))) ^^^ (-1)) dX7_alike_68 rfl ?_
            refine ev_iand (v := nI (s_al A j1 j2 false)) dX7_alike_69 (s_alA b8) ?_
            refine ev_istore (lv' := [(0, .ref 65), (1, .int (nI j1)), (2, .int (nI j2)), (3, .int 1), (4, .int (nI (s_al A j1 j2 true))), (5, .int (nI (s_al A j1 j2 false)))]) dX7_alike_70 (by decide) rfl ?_
            have hal : s_al A j1 j2 false < 2 ^ 8 := Nat.lt_of_lt_of_le (mk_lt _ _) (Nat.pow_le_pow_right (by decide) b8)
            have hal2 : s_al A j1 j2 true < 2 ^ 8 := Nat.lt_of_lt_of_le (mk_lt _ _) (Nat.pow_le_pow_right (by decide) b8)
            refine ev_iload dX7_alike_72 rfl ?_
            refine ev_if_ne (tgt := 83) dX7_alike_74 (by decide) (fun c14 => ?_) (fun c14 => ?_)
            · skip
              have c14n : ¬ (s_al A j1 j2 false) = 0 := fun zz => c14 ((nI_eq (a := (s_al A j1 j2 false)) (b := 0) (by omega) (by omega)).mpr zz)
              refine ev_iload dX7_alike_83 rfl ?_
              refine ev_callS (as := [.int (nI (s_al A j1 j2 true))]) (st := []) dX7_alike_85 mfX7_ones lk_X7_238 (c_X7_ones G (D + 6) σ13 (s_al A j1 j2 true) (by omega)) rfl rfl (Nat.le_of_ble_eq_true rfl) (am_hR (by omega) (by decide)) ⟨Nat.le_refl _, Nat.le_refl _⟩ ?_
              rintro _ _ ⟨rfl, rfl⟩
              have hon14 := s_on12 (s_al A j1 j2 true)
              refine ev_i2l (v := lN (s_on (s_al A j1 j2 true))) dX7_alike_88 (nI_l (by omega)) ?_
              refine ev_iload dX7_alike_89 rfl ?_
              refine ev_callS (as := [.int (nI (s_al A j1 j2 false))]) (st := [.long (lN (s_on (s_al A j1 j2 true)))]) dX7_alike_91 mfX7_ones lk_X7_238 (c_X7_ones G (D + 6) σ13 (s_al A j1 j2 false) (by omega)) rfl rfl (Nat.le_of_ble_eq_true rfl) (am_hR (by omega) (by decide)) ⟨Nat.le_refl _, Nat.le_refl _⟩ ?_
              rintro _ _ ⟨rfl, rfl⟩
              have hon14 := s_on12 (s_al A j1 j2 false)
              refine ev_i2l (v := lN (s_on (s_al A j1 j2 false))) dX7_alike_94 (nI_l (by omega)) ?_
              refine ev_iload_n dX7_alike_95 rfl rfl ?_
              have hpos : ¬ s_on (s_al A j1 j2 false) = 0 := fun z => c14n (s_on0 (by omega) z)
              refine ev_callS (as := [.long (lN (s_on (s_al A j1 j2 true))), .long (lN (s_on (s_al A j1 j2 false))), .int 1]) (st := []) dX7_alike_96 mfX7_lowest lk_X7_247 (c_X7_lowest G (D + 6) σ13 (s_on (s_al A j1 j2 true)) (s_on (s_al A j1 j2 false)) 1 (by omega) (by omega) (by omega) (Or.inr rfl)) rfl rfl (Nat.le_of_ble_eq_true rfl) (am_hR (by omega) (by decide)) ⟨Nat.le_refl _, Nat.le_refl _⟩ ?_
              rintro _ _ ⟨rfl, rfl⟩
              refine ev_retl dX7_alike_99 rfl (Nat.zero_le _) (Nat.zero_le _) ?_
              refine ⟨?_, hI13, (fr_M.tr (fr_M.tr (fr_M.tr (fr_M.tr fr_M.rf hF10) hF11) hF12) hF13)⟩
              simp [sp_alike, am_inN h1 (by omega), am_inN h2 (by omega), sN_n (show j1 < 2 ^ 31 by omega), sN_n (show j2 < 2 ^ 31 by omega), c3, c3n, c14, c14n]
            · skip
              have c14n : (s_al A j1 j2 false) = 0 := (nI_eq (a := (s_al A j1 j2 false)) (b := 0) (by omega) (by omega)).mp c14
              refine ev_ldc2 dX7_alike_77 ct_X7_245 ?_
              refine ev_goto (tgt := 99) dX7_alike_80 (by decide) ?_
              refine ev_retl dX7_alike_99 rfl (Nat.zero_le _) (Nat.zero_le _) ?_
              refine ⟨?_, hI13, (fr_M.tr (fr_M.tr (fr_M.tr (fr_M.tr fr_M.rf hF10) hF11) hF12) hF13)⟩
              simp [sp_alike, am_inN h1 (by omega), am_inN h2 (by omega), sN_n (show j1 < 2 ^ 31 by omega), sN_n (show j2 < 2 ^ 31 by omega), c3, c3n, c14, c14n]
        · skip
          have h4r := fun q => h4 ((am_rgl (n := 2) (by decide)).mpr q)
          have hw0 := am_w1 h4r
          refine ev_if_ne (tgt := 32) dX7_alike_25 (by decide) (fun c => absurd (by decide) c) (fun _ => ?_)
          refine ev_ldc2 dX7_alike_28 ct_X7_245 ?_
          refine ev_retl dX7_alike_31 rfl (Nat.zero_le _) (Nat.zero_le _) ?_
          refine ⟨?_, hI, fr_M.rf⟩
          simp [sp_alike, am_inN h1 (by omega), am_inN h2 (by omega), sN_n (show j1 < 2 ^ 31 by omega), sN_n (show j2 < 2 ^ 31 by omega), hw0, c3, c3n]
    · skip
      refine ev_if_eq (tgt := 28) dX7_alike_11 (by decide) (fun _ => ?_) (fun c => absurd (by decide) c)
      refine ev_ldc2 dX7_alike_28 ct_X7_245 ?_
      refine ev_retl dX7_alike_31 rfl (Nat.zero_le _) (Nat.zero_le _) ?_
      refine ⟨?_, hI, fr_M.rf⟩
      simp [sp_alike, am_inN h1 (by omega), sN_n (show j1 < 2 ^ 31 by omega), am_inF (by omega) h2]
  · skip
    refine ev_if_eq (tgt := 28) dX7_alike_4 (by decide) (fun _ => ?_) (fun c => absurd (by decide) c)
    refine ev_ldc2 dX7_alike_28 ct_X7_245 ?_
    refine ev_retl dX7_alike_31 rfl (Nat.zero_le _) (Nat.zero_le _) ?_
    refine ⟨?_, hI, fr_M.rf⟩
    simp [sp_alike, am_inF (by omega) h1]

