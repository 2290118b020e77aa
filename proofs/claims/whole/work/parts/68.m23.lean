/-! the reference: text -/
theorem lx_twN {w : Nat} (h : w ≤ 12) (h6 : -6 ≤ lx_tw w) : lx_tw w = -1 ∨ lx_tw w = -2 ∨ lx_tw w = -3 ∨ lx_tw w = -4 ∨ lx_tw w = -5 ∨ lx_tw w = -6 := by
  rcases (show w = 0 ∨ w = 1 ∨ w = 2 ∨ w = 3 ∨ w = 4 ∨ w = 5 ∨ w = 6 ∨ w = 7 ∨ w = 8 ∨ w = 9 ∨ w = 10 ∨ w = 11 ∨ w = 12 by omega) with rfl | rfl | rfl | rfl | rfl | rfl | rfl | rfl | rfl | rfl | rfl | rfl | rfl <;> revert h6 <;> decide
theorem s_sgN {v : Int32} : ¬ -6 ≤ s_sg v := by
  have h : ∀ y, s_sg v = y → ¬ -6 ≤ y := by
    intro y h
    unfold s_sg at h
    by_cases c1 : v = 40
    · rw [if_pos c1] at h; subst h; decide
    rw [if_neg c1] at h
    by_cases c2 : v = 41
    · rw [if_pos c2] at h; subst h; decide
    rw [if_neg c2] at h
    by_cases c3 : v = 59
    · rw [if_pos c3] at h; subst h; decide
    rw [if_neg c3] at h
    by_cases c4 : v = 43
    · rw [if_pos c4] at h; subst h; decide
    rw [if_neg c4] at h
    by_cases c5 : v = 45
    · rw [if_pos c5] at h; subst h; decide
    rw [if_neg c5] at h
    by_cases c6 : v = 42
    · rw [if_pos c6] at h; subst h; decide
    rw [if_neg c6] at h
    by_cases c7 : v = 60
    · rw [if_pos c7] at h; subst h; decide
    rw [if_neg c7] at h
    by_cases c8 : v = 61
    · rw [if_pos c8] at h; subst h; decide
    rw [if_neg c8] at h
    subst h; decide
  exact h _ rfl
theorem lx_atN {b : Nat → Int32} {n p : Nat} : lx_num (lx_at b n p) := by
  by_cases h1 : n ≤ p
  · rw [lx_atO h1]
    exact fun z => absurd z (by show ¬ (-6 : Int32) ≤ -22; decide)
  · cases h2 : lx_le (b p) with
    | true =>
      rw [lx_atL h1 h2 rfl]
      exact fun z => Or.inl (lx_twN lx_wilt z)
    | false =>
      cases h3 : lx_di (b p) with
      | true =>
        rw [lx_atD h1 h2 h3 rfl]
        intro z
        have hd : ∀ i, i < lx_run lx_di b (n - p) p - p → lx_di (b (p + i)) = true := fun i hi => lx_run_in (m := n - p) (a := p) (Nat.le_add_right p i) (by omega)
        have hv := lx_vB hd
        by_cases c : lx_run lx_di b (n - p) p - p ≤ 4
        · refine Or.inr ⟨lx_v b p (lx_run lx_di b (n - p) p - p), ?_, if_pos c⟩
          have := Nat.lt_of_lt_of_le hv (Nat.pow_le_pow_right (by decide) c)
          omega
        · exfalso
          have e : -6 ≤ (if lx_run lx_di b (n - p) p - p ≤ 4 then nI (lx_v b p (lx_run lx_di b (n - p) p - p)) else -23) := z
          rw [if_neg c] at e
          exact absurd e (by decide)
      | false =>
        rw [lx_atS h1 h2 h3]
        exact fun z => absurd z s_sgN
theorem tx_Y {A : am_S} : rd_Y (s_tp A) (tx_n A) := fun _ ha => ⟨⟨lx_nx_ok ha, lx_atN⟩, lx_nx_ge⟩
/-- nothing has changed but where the new text stands -/
def tx_E (A B : am_S) : Prop := ∀ a k, ¬ (a = 75 ∧ 200 * s_nt A ≤ k) → ¬ (a = 76 ∧ 4 * s_nt A ≤ k) → B a k = A a k
theorem tx_E0 {A : am_S} {s : List Nat} {l : List Int32} : tx_E A (cd_S (tx_B A s) l) := by
  intro a k h2 h3
  unfold cd_S
  rw [tx_Bnt, if_neg (by omega), tx_Bx h3]
theorem tx_E1 {A B : am_S} {i : Nat} {v : Int32} (h : tx_E A B) : tx_E A (am_up B 76 (4 * s_nt A + i) v) := fun a k h2 h3 => (am_un (by omega)).trans (h a k h2 h3)
theorem tx_ED {A B : am_S} (hA : wf_T A) (h : tx_E A B) : tx_D A (am_up B 65 11 0) ∧ (am_up B 65 11 0) 65 14 = nI (s_nt A) := ⟨⟨am_us, fun a k h1 h2 h3 => (am_un (by omega)).trans (h a k h2 h3)⟩, (am_un (by omega)).trans ((h 65 14 (by omega) (by omega)).trans (wt_nt hA))⟩
set_option maxHeartbeats 400000 in
set_option maxRecDepth 100000 in
theorem c_X7_text (G : am_G) (D : Nat) (A : am_S) (σ : am_M) (hA : wf_T A) (hW : wo_A A) (hI : iv_M A σ)  : am_Mt G (D + 4) mX7_text [.ref 65] σ 0 0 (am_qX A σ) := by
  have b6 := wt_6 hA
  have b160 := wt_160 hA
  refine am_of moX7_text (Nat.le_of_ble_eq_true rfl) ?_
  show am_Ev G mX7_text (am_R (D + 4) 0 0) 0 0 (am_qX A σ) 0 [(0, .ref 65)] [] σ 0 0
  have hX : rd_Y (s_tp A) (tx_n A) := tx_Y
  have h160 := wt_160 hA
  have hb6 := wt_6 hA
  refine ev_aload_n dX7_text_0 rfl rfl ?_
  refine ev_getI (v := nI (s_nt A)) dX7_text_1 fl_X7_97 (ly_k hI.ly 65 rfl) ((hI.rd 65 14 rfl).trans (wt_nt hA)) ?_
  refine ev_bipush (v := 6) dX7_text_4 (by decide) ?_
  refine ev_icmp_ne (tgt := 12) dX7_text_6 (by decide) (fun c1 => ?_) (fun c1 => ?_)
  · skip
    have c1n : ¬ (s_nt A) = 6 := fun zz => c1 ((nI_eq (a := (s_nt A)) (b := 6) (by omega) (by omega)).mpr zz)
    have hnt : s_nt A < 6 := by omega
    refine ev_aload_n dX7_text_12 rfl rfl ?_
    refine ev_iconst (v := 0) dX7_text_13 (by decide) ?_
    refine ev_putI dX7_text_14 fl_X7_107 rfl rfl (ly_k hI.ly 65 rfl) ?_
    refine ev_aload_n dX7_text_17 rfl rfl ?_
    refine ev_iconst (v := 0) dX7_text_18 (by decide) ?_
    refine ev_putI dX7_text_19 fl_X7_123 rfl rfl (ly_k (iv_M.sc rfl hI).ly 65 rfl) ?_
    refine ev_iconst (v := 1) dX7_text_22 (by decide) ?_
    refine ev_istore_n (lv' := [(0, .ref 65), (1, .int 1)]) dX7_text_23 rfl (by decide) rfl ?_
    refine ev_iconst (v := 0) dX7_text_24 (by decide) ?_
    refine ev_istore_n (lv' := [(0, .ref 65), (1, .int 1), (2, .int 0)]) dX7_text_25 rfl (by decide) rfl ?_
    refine ev_iload_n dX7_text_26 rfl rfl ?_
    refine ev_iconst (v := 3) dX7_text_27 (by decide) ?_
    refine ev_icmp_ge (tgt := 101) dX7_text_28 (by decide) (fun c => absurd c (by decide)) (fun _ => ?_)
    refine ev_iload_n dX7_text_31 rfl rfl ?_
    refine ev_if_eq (tgt := 101) dX7_text_32 (by decide) (fun c => absurd c (by decide)) (fun _ => ?_)
    refine ev_aload_n dX7_text_35 rfl rfl ?_
    have hIc : iv_M (cd_S (tx_B A []) []) (am_sI (am_sI σ 65 27 0) 65 35 0) := by rw [cd_0]; exact (iv_M.sc rfl (iv_M.sc rfl hI))
    have ha2 : (am_sI (am_sI σ 65 27 0) 65 35 0).2.1 65 27 = nI 0 := (am_ru (by omega) am_rs)
    have hn2 : 0 ≤ s_tp A := (Nat.zero_le _)
    refine ev_callV (as := []) (st := []) dX7_text_36 mfX7_next lk_X7_146 (ly_k (iv_M.sc rfl (iv_M.sc rfl hI)).ly 65 rfl) (by decide) rfl (c_X7_next G (D + 2) (cd_S (tx_B A []) []) (am_sI (am_sI σ 65 27 0) 65 35 0) (wt_cd (tx_BT hA)) hIc (wo_cd (tx_BW hW)) 0 ha2 (by rw [cd_tp, tx_Btp]; exact hn2)) rfl rfl (Nat.le_of_ble_eq_true rfl) (am_hR (by omega) (by decide)) ⟨Nat.le_refl _, Nat.le_refl _⟩ ?_
    rintro _ σ2 ⟨rfl, hI2, hF2, ht2⟩
    rw [cd_74, cd_tp, tx_B74, tx_Btp] at ht2
    have hK2 := (hX 0 hn2).1.1
    have hG2 := (hX 0 hn2).2
    obtain ⟨T2, hT2⟩ : ∃ T, T = tx_n A 0 := ⟨_, rfl⟩
    rw [show lx_nx (A 74) (s_tp A) 0 = tx_n A 0 from rfl, ← hT2] at ht2
    rw [← hT2] at hK2 hG2
    obtain ⟨kp2, ka2, kb2, kc2⟩ := hK2
    refine ev_aload_n dX7_text_39 rfl rfl ?_
    refine ev_getI (v := mt_t T2.1) dX7_text_40 fl_X7_113 (ly_k hI2.ly 65 rfl) ht2.2.2.1 ?_
    refine ev_iconst (v := 3) dX7_text_43 (by decide) ?_
    refine ev_icmp_ne (tgt := 59) dX7_text_44 (by decide) (fun c3 => ?_) (fun c3 => ?_)
    · skip
      have hpn := tx_pN (nx := tx_n A) (mt_kG c3 (-19) (by decide))
      rw [hT2] at hpn
      refine ev_iconst (v := 0) dX7_text_59 (by decide) ?_
      refine ev_istore_n (lv' := [(0, .ref 65), (1, .int 0), (2, .int 0)]) dX7_text_60 rfl (by decide) rfl ?_
      refine ev_aload_n dX7_text_61 rfl rfl ?_
      refine ev_getR (b := 76) dX7_text_62 fl_X7_40 (ly_k hI2.ly 65 rfl) (ly_r hI2.ly 39 rfl) ?_
      refine ev_iconst (v := 4) dX7_text_65 (by decide) ?_
      refine ev_aload_n dX7_text_66 rfl rfl ?_
      refine ev_getI (v := nI (s_nt A)) dX7_text_67 fl_X7_97 (ly_k hI2.ly 65 rfl) ((hI2.rd 65 14 rfl).trans ((cd_x (by decide)).trans ((tx_Bx (by omega)).trans (wt_nt hA)))) ?_
      refine ev_imul (v := nI (4 * (s_nt A))) dX7_text_70 (pk_mul 4 (s_nt A)) ?_
      refine ev_iload_n dX7_text_71 rfl rfl ?_
      refine ev_iadd (v := nI (4 * (s_nt A) + 0)) dX7_text_72 (nI_add (4 * (s_nt A)) 0) ?_
      refine ev_aload_n dX7_text_73 rfl rfl ?_
      refine ev_getI (v := nI 0) dX7_text_74 fl_X7_123 (ly_k hI2.ly 65 rfl) ((hF2.2.2 65 35 (by omega)).trans am_rs) ?_
      refine ev_iast dX7_text_77 (ly_k hI2.ly 76 rfl) (am_ixn (by omega) (by decide)) ?_
      refine ev_iload_n dX7_text_78 rfl rfl ?_
      refine ev_if_eq (tgt := 93) dX7_text_79 (by decide) (fun _ => ?_) (fun c => absurd (by decide) c)
      refine ev_iconst (v := 0) dX7_text_93 (by decide) ?_
      refine ev_istore_n (lv' := [(0, .ref 65), (1, .int 0), (2, .int 0)]) dX7_text_94 rfl (by decide) rfl ?_
      refine ev_iinc (lv' := [(0, .ref 65), (1, .int 0), (2, .int 1)]) (v := 1) dX7_text_95 rfl (by decide) (by decide) rfl ?_
      refine ev_goto (tgt := 26) dX7_text_98 (by decide) ?_
      refine ev_iload_n dX7_text_26 rfl rfl ?_
      refine ev_iconst (v := 3) dX7_text_27 (by decide) ?_
      refine ev_icmp_ge (tgt := 101) dX7_text_28 (by decide) (fun c => absurd c (by decide)) (fun _ => ?_)
      refine ev_iload_n dX7_text_31 rfl rfl ?_
      refine ev_if_eq (tgt := 101) dX7_text_32 (by decide) (fun _ => ?_) (fun c => absurd (by decide) c)
      refine ev_iload_n dX7_text_101 rfl rfl ?_
      refine ev_if_eq (tgt := 122) dX7_text_102 (by decide) (fun _ => ?_) (fun c => absurd (by decide) c)
      refine ev_aload_n dX7_text_122 rfl rfl ?_
      refine ev_getR (b := 76) dX7_text_123 fl_X7_40 (ly_k (iv_M.up hI2).ly 65 rfl) (ly_r (iv_M.up hI2).ly 39 rfl) ?_
      refine ev_iconst (v := 4) dX7_text_126 (by decide) ?_
      refine ev_aload_n dX7_text_127 rfl rfl ?_
      refine ev_getI (v := nI (s_nt A)) dX7_text_128 fl_X7_97 (ly_k (iv_M.up hI2).ly 65 rfl) (am_ru (by omega) ((hI2.rd 65 14 rfl).trans ((cd_x (by decide)).trans ((tx_Bx (by omega)).trans (wt_nt hA))))) ?_
      refine ev_imul (v := nI (4 * (s_nt A))) dX7_text_131 (pk_mul 4 (s_nt A)) ?_
      refine ev_iconst (v := 3) dX7_text_132 (by decide) ?_
      refine ev_iadd (v := nI (4 * (s_nt A) + 3)) dX7_text_133 (nI_add (4 * (s_nt A)) 3) ?_
      refine ev_aload_n dX7_text_134 rfl rfl ?_
      refine ev_getI (v := nI 0) dX7_text_135 fl_X7_123 (ly_k (iv_M.up hI2).ly 65 rfl) (am_ru (by omega) ((hF2.2.2 65 35 (by omega)).trans am_rs)) ?_
      refine ev_iast dX7_text_138 (ly_k (iv_M.up hI2).ly 76 rfl) (am_ixn (by omega) (by decide)) ?_
      refine ev_aload_n dX7_text_139 rfl rfl ?_
      refine ev_iconst (v := 0) dX7_text_140 (by decide) ?_
      refine ev_putI dX7_text_141 fl_X7_79 rfl rfl (ly_k (iv_M.up (iv_M.up hI2)).ly 65 rfl) ?_
      refine ev_iload_n dX7_text_144 rfl rfl ?_
      refine ev_if_ne (tgt := 156) dX7_text_145 (by decide) (fun c => absurd (by decide) c) (fun _ => ?_)
      refine ev_bipush (v := (-100)) dX7_text_148 (by decide) ?_
      refine ev_aload_n dX7_text_150 rfl rfl ?_
      refine ev_getI (v := nI T2.2.1) dX7_text_151 fl_X7_110 (ly_k (iv_M.up (iv_M.up (iv_M.up hI2))).ly 65 rfl) (am_ru (by omega) (am_ru (by omega) (am_ru (by omega) ht2.2.1))) ?_
      refine ev_isub (v := (-100) - (nI T2.2.1)) dX7_text_154 rfl ?_
      refine ev_reti dX7_text_155 rfl (Nat.zero_le _) (Nat.zero_le _) ?_
      have hf := tx_1F hpn
      rw [← hT2] at hf
      obtain ⟨d1, d2⟩ := tx_ED (B := (am_up (am_up (cd_S (tx_B A []) []) 76 (4 * (s_nt A) + 0) (nI 0)) 76 (4 * (s_nt A) + 3) (nI 0))) hA (tx_E1 (tx_E1 tx_E0))
      exact ⟨_, _, Or.inr ⟨hnt, d1, Or.inl ⟨hf.1, by rw [hf.2], d2⟩⟩, rfl, (iv_M.up (iv_M.up (iv_M.up hI2))), (fr_M.wr (by decide) (fr_M.wr (by decide) (fr_M.wr (by decide) ((fr_M.wr (by decide) (fr_M.wr (by decide) fr_M.rf)).tr hF2.M))))⟩
    · skip
      refine ev_aload_n dX7_text_47 rfl rfl ?_
      refine ev_getI (v := mt_v T2.1) dX7_text_48 fl_X7_116 (ly_k hI2.ly 65 rfl) (ht2.2.2.2 (mt_kn c3)) ?_
      refine ev_iload_n dX7_text_51 rfl rfl ?_
      refine ev_icmp_ne (tgt := 59) dX7_text_52 (by decide) (fun c4 => ?_) (fun c4 => ?_)
      · skip
        have hpn := tx_pN (nx := tx_n A) (mt_kF c3 c4 (-19) (by decide) (by decide))
        rw [hT2] at hpn
        refine ev_iconst (v := 0) dX7_text_59 (by decide) ?_
        refine ev_istore_n (lv' := [(0, .ref 65), (1, .int 0), (2, .int 0)]) dX7_text_60 rfl (by decide) rfl ?_
        refine ev_aload_n dX7_text_61 rfl rfl ?_
        refine ev_getR (b := 76) dX7_text_62 fl_X7_40 (ly_k hI2.ly 65 rfl) (ly_r hI2.ly 39 rfl) ?_
        refine ev_iconst (v := 4) dX7_text_65 (by decide) ?_
        refine ev_aload_n dX7_text_66 rfl rfl ?_
        refine ev_getI (v := nI (s_nt A)) dX7_text_67 fl_X7_97 (ly_k hI2.ly 65 rfl) ((hI2.rd 65 14 rfl).trans ((cd_x (by decide)).trans ((tx_Bx (by omega)).trans (wt_nt hA)))) ?_
        refine ev_imul (v := nI (4 * (s_nt A))) dX7_text_70 (pk_mul 4 (s_nt A)) ?_
        refine ev_iload_n dX7_text_71 rfl rfl ?_
        refine ev_iadd (v := nI (4 * (s_nt A) + 0)) dX7_text_72 (nI_add (4 * (s_nt A)) 0) ?_
        refine ev_aload_n dX7_text_73 rfl rfl ?_
        refine ev_getI (v := nI 0) dX7_text_74 fl_X7_123 (ly_k hI2.ly 65 rfl) ((hF2.2.2 65 35 (by omega)).trans am_rs) ?_
        refine ev_iast dX7_text_77 (ly_k hI2.ly 76 rfl) (am_ixn (by omega) (by decide)) ?_
        refine ev_iload_n dX7_text_78 rfl rfl ?_
        refine ev_if_eq (tgt := 93) dX7_text_79 (by decide) (fun _ => ?_) (fun c => absurd (by decide) c)
        refine ev_iconst (v := 0) dX7_text_93 (by decide) ?_
        refine ev_istore_n (lv' := [(0, .ref 65), (1, .int 0), (2, .int 0)]) dX7_text_94 rfl (by decide) rfl ?_
        refine ev_iinc (lv' := [(0, .ref 65), (1, .int 0), (2, .int 1)]) (v := 1) dX7_text_95 rfl (by decide) (by decide) rfl ?_
        refine ev_goto (tgt := 26) dX7_text_98 (by decide) ?_
        refine ev_iload_n dX7_text_26 rfl rfl ?_
        refine ev_iconst (v := 3) dX7_text_27 (by decide) ?_
        refine ev_icmp_ge (tgt := 101) dX7_text_28 (by decide) (fun c => absurd c (by decide)) (fun _ => ?_)
        refine ev_iload_n dX7_text_31 rfl rfl ?_
        refine ev_if_eq (tgt := 101) dX7_text_32 (by decide) (fun _ => ?_) (fun c => absurd (by decide) c)
        refine ev_iload_n dX7_text_101 rfl rfl ?_
        refine ev_if_eq (tgt := 122) dX7_text_102 (by decide) (fun _ => ?_) (fun c => absurd (by decide) c)
        refine ev_aload_n dX7_text_122 rfl rfl ?_
        refine ev_getR (b := 76) dX7_text_123 fl_X7_40 (ly_k (iv_M.up hI2).ly 65 rfl) (ly_r (iv_M.up hI2).ly 39 rfl) ?_
        refine ev_iconst (v := 4) dX7_text_126 (by decide) ?_
        refine ev_aload_n dX7_text_127 rfl rfl ?_
        refine ev_getI (v := nI (s_nt A)) dX7_text_128 fl_X7_97 (ly_k (iv_M.up hI2).ly 65 rfl) (am_ru (by omega) ((hI2.rd 65 14 rfl).trans ((cd_x (by decide)).trans ((tx_Bx (by omega)).trans (wt_nt hA))))) ?_
        refine ev_imul (v := nI (4 * (s_nt A))) dX7_text_131 (pk_mul 4 (s_nt A)) ?_
        refine ev_iconst (v := 3) dX7_text_132 (by decide) ?_
        refine ev_iadd (v := nI (4 * (s_nt A) + 3)) dX7_text_133 (nI_add (4 * (s_nt A)) 3) ?_
        refine ev_aload_n dX7_text_134 rfl rfl ?_
        refine ev_getI (v := nI 0) dX7_text_135 fl_X7_123 (ly_k (iv_M.up hI2).ly 65 rfl) (am_ru (by omega) ((hF2.2.2 65 35 (by omega)).trans am_rs)) ?_
        refine ev_iast dX7_text_138 (ly_k (iv_M.up hI2).ly 76 rfl) (am_ixn (by omega) (by decide)) ?_
        refine ev_aload_n dX7_text_139 rfl rfl ?_
        refine ev_iconst (v := 0) dX7_text_140 (by decide) ?_
        refine ev_putI dX7_text_141 fl_X7_79 rfl rfl (ly_k (iv_M.up (iv_M.up hI2)).ly 65 rfl) ?_
        refine ev_iload_n dX7_text_144 rfl rfl ?_
        refine ev_if_ne (tgt := 156) dX7_text_145 (by decide) (fun c => absurd (by decide) c) (fun _ => ?_)
        refine ev_bipush (v := (-100)) dX7_text_148 (by decide) ?_
        refine ev_aload_n dX7_text_150 rfl rfl ?_
        refine ev_getI (v := nI T2.2.1) dX7_text_151 fl_X7_110 (ly_k (iv_M.up (iv_M.up (iv_M.up hI2))).ly 65 rfl) (am_ru (by omega) (am_ru (by omega) (am_ru (by omega) ht2.2.1))) ?_
        refine ev_isub (v := (-100) - (nI T2.2.1)) dX7_text_154 rfl ?_
        refine ev_reti dX7_text_155 rfl (Nat.zero_le _) (Nat.zero_le _) ?_
        have hf := tx_1F hpn
        rw [← hT2] at hf
        obtain ⟨d1, d2⟩ := tx_ED (B := (am_up (am_up (cd_S (tx_B A []) []) 76 (4 * (s_nt A) + 0) (nI 0)) 76 (4 * (s_nt A) + 3) (nI 0))) hA (tx_E1 (tx_E1 tx_E0))
        exact ⟨_, _, Or.inr ⟨hnt, d1, Or.inl ⟨hf.1, by rw [hf.2], d2⟩⟩, rfl, (iv_M.up (iv_M.up (iv_M.up hI2))), (fr_M.wr (by decide) (fr_M.wr (by decide) (fr_M.wr (by decide) ((fr_M.wr (by decide) (fr_M.wr (by decide) fr_M.rf)).tr hF2.M))))⟩
      · skip
        refine ev_iconst (v := 1) dX7_text_55 (by decide) ?_
        refine ev_goto (tgt := 60) dX7_text_56 (by decide) ?_
        refine ev_istore_n (lv' := [(0, .ref 65), (1, .int 1), (2, .int 0)]) dX7_text_60 rfl (by decide) rfl ?_
        refine ev_aload_n dX7_text_61 rfl rfl ?_
        refine ev_getR (b := 76) dX7_text_62 fl_X7_40 (ly_k hI2.ly 65 rfl) (ly_r hI2.ly 39 rfl) ?_
        refine ev_iconst (v := 4) dX7_text_65 (by decide) ?_
        refine ev_aload_n dX7_text_66 rfl rfl ?_
        refine ev_getI (v := nI (s_nt A)) dX7_text_67 fl_X7_97 (ly_k hI2.ly 65 rfl) ((hI2.rd 65 14 rfl).trans ((cd_x (by decide)).trans ((tx_Bx (by omega)).trans (wt_nt hA)))) ?_
        refine ev_imul (v := nI (4 * (s_nt A))) dX7_text_70 (pk_mul 4 (s_nt A)) ?_
        refine ev_iload_n dX7_text_71 rfl rfl ?_
        refine ev_iadd (v := nI (4 * (s_nt A) + 0)) dX7_text_72 (nI_add (4 * (s_nt A)) 0) ?_
        refine ev_aload_n dX7_text_73 rfl rfl ?_
        refine ev_getI (v := nI 0) dX7_text_74 fl_X7_123 (ly_k hI2.ly 65 rfl) ((hF2.2.2 65 35 (by omega)).trans am_rs) ?_
        refine ev_iast dX7_text_77 (ly_k hI2.ly 76 rfl) (am_ixn (by omega) (by decide)) ?_
        have hIs5 : iv_M (cd_S (tx_B A [0]) []) (am_sI σ2 76 (4 * (s_nt A) + 0) (nI 0)) := by rw [tx_Bup]; exact (iv_M.up hI2)
        refine ev_iload_n dX7_text_78 rfl rfl ?_
        refine ev_if_eq (tgt := 93) dX7_text_79 (by decide) (fun c => absurd c (by decide)) (fun _ => ?_)
        refine ev_aload_n dX7_text_82 rfl rfl ?_
        have ha6 : (am_sI σ2 76 (4 * (s_nt A) + 0) (nI 0)).2.1 65 27 = nI T2.2.2 := (am_ru (by omega) ht2.1)
        have ho6 : (am_sI σ2 76 (4 * (s_nt A) + 0) (nI 0)).2.1 65 35 = nI ([] : List Int32).length := (am_ru (by omega) ((hF2.2.2 65 35 (by omega)).trans am_rs))
        refine ev_callV (as := []) (st := []) dX7_text_83 mfX7_eRead lk_X7_159 (ly_k hIs5.ly 65 rfl) (by decide) rfl (c_X7_eRead G D (tx_B A [0]) (am_sI σ2 76 (4 * (s_nt A) + 0) (nI 0)) (tx_BT hA) (tx_BW hW) (by rw [tx_Bnt]; exact hnt) [] T2.2.2 hIs5 ha6 ho6 (by rw [tx_Btp]; exact ka2) (by exact Nat.zero_le _)) rfl rfl (Nat.le_of_ble_eq_true rfl) (am_hR (by omega) (by decide)) ⟨Nat.le_refl _, Nat.le_refl _⟩ ?_
        rintro _ σ6 ⟨⟨b, m6, R6⟩, l6, hcv, rfl, hsuc, ht6, hI6, h356, hl6, hR6, hF6⟩
        rw [tx_B74, tx_Btp] at hcv
        rw [tx_Btp] at hR6
        dsimp only at hsuc ht6 hl6 hR6
        have hkey : T2.1 = -19 := (mt_k c3 c4).1.trans (by decide)
        cases b with
        | true =>
          obtain ⟨qcs0, e1, hp0⟩ := tx_t1 (nx := tx_n A) h160 hX hkey ka2 hcv
          rw [List.nil_append] at e1
          have e2 := hsuc rfl
          subst e2
          have e3 := e1.symm
          subst e3
          rw [hT2] at hp0
          have hx := tx_1T hp0
          refine ev_if_eq (tgt := 93) dX7_text_86 (by decide) (fun c => absurd c (show ¬ (1 : Int32) = 0 by decide)) (fun _ => ?_)
          refine ev_iconst (v := 1) dX7_text_89 (by decide) ?_
          refine ev_goto (tgt := 94) dX7_text_90 (by decide) ?_
          refine ev_istore_n (lv' := [(0, .ref 65), (1, .int 1), (2, .int 0)]) dX7_text_94 rfl (by decide) rfl ?_
          refine ev_iinc (lv' := [(0, .ref 65), (1, .int 1), (2, .int 1)]) (v := 1) dX7_text_95 rfl (by decide) (by decide) rfl ?_
          refine ev_goto (tgt := 26) dX7_text_98 (by decide) ?_
          refine ev_iload_n dX7_text_26 rfl rfl ?_
          refine ev_iconst (v := 3) dX7_text_27 (by decide) ?_
          refine ev_icmp_ge (tgt := 101) dX7_text_28 (by decide) (fun c => absurd c (by decide)) (fun _ => ?_)
          refine ev_iload_n dX7_text_31 rfl rfl ?_
          refine ev_if_eq (tgt := 101) dX7_text_32 (by decide) (fun c => absurd c (by decide)) (fun _ => ?_)
          refine ev_aload_n dX7_text_35 rfl rfl ?_
          have ha7 : σ6.2.1 65 27 = nI R6.2.2 := ht6.1
          have hn7 : R6.2.2 ≤ s_tp A := hR6
          refine ev_callV (as := []) (st := []) dX7_text_36 mfX7_next lk_X7_146 (ly_k hI6.ly 65 rfl) (by decide) rfl (c_X7_next G (D + 2) (cd_S (tx_B A [0]) qcs0) σ6 (wt_cd (tx_BT hA)) hI6 (wo_cd (tx_BW hW)) R6.2.2 ha7 (by rw [cd_tp, tx_Btp]; exact hn7)) rfl rfl (Nat.le_of_ble_eq_true rfl) (am_hR (by omega) (by decide)) ⟨Nat.le_refl _, Nat.le_refl _⟩ ?_
          rintro _ σ7 ⟨rfl, hI7, hF7, ht7⟩
          rw [cd_74, cd_tp, tx_B74, tx_Btp] at ht7
          have hK7 := (hX R6.2.2 hn7).1.1
          have hG7 := (hX R6.2.2 hn7).2
          obtain ⟨T7, hT7⟩ : ∃ T, T = tx_n A R6.2.2 := ⟨_, rfl⟩
          rw [show lx_nx (A 74) (s_tp A) R6.2.2 = tx_n A R6.2.2 from rfl, ← hT7] at ht7
          rw [← hT7] at hK7 hG7
          obtain ⟨kp7, ka7, kb7, kc7⟩ := hK7
          refine ev_aload_n dX7_text_39 rfl rfl ?_
          refine ev_getI (v := mt_t T7.1) dX7_text_40 fl_X7_113 (ly_k hI7.ly 65 rfl) ht7.2.2.1 ?_
          refine ev_iconst (v := 3) dX7_text_43 (by decide) ?_
          refine ev_icmp_ne (tgt := 59) dX7_text_44 (by decide) (fun c8 => ?_) (fun c8 => ?_)
          · skip
            have hpn := tx_pN (nx := tx_n A) (mt_kG c8 (-20) (by decide))
            rw [hT7] at hpn
            refine ev_iconst (v := 0) dX7_text_59 (by decide) ?_
            refine ev_istore_n (lv' := [(0, .ref 65), (1, .int 0), (2, .int 1)]) dX7_text_60 rfl (by decide) rfl ?_
            refine ev_aload_n dX7_text_61 rfl rfl ?_
            refine ev_getR (b := 76) dX7_text_62 fl_X7_40 (ly_k hI7.ly 65 rfl) (ly_r hI7.ly 39 rfl) ?_
            refine ev_iconst (v := 4) dX7_text_65 (by decide) ?_
            refine ev_aload_n dX7_text_66 rfl rfl ?_
            refine ev_getI (v := nI (s_nt A)) dX7_text_67 fl_X7_97 (ly_k hI7.ly 65 rfl) ((hI7.rd 65 14 rfl).trans ((cd_x (by decide)).trans ((tx_Bx (by omega)).trans (wt_nt hA)))) ?_
            refine ev_imul (v := nI (4 * (s_nt A))) dX7_text_70 (pk_mul 4 (s_nt A)) ?_
            refine ev_iload_n dX7_text_71 rfl rfl ?_
            refine ev_iadd (v := nI (4 * (s_nt A) + 1)) dX7_text_72 (nI_1 _) ?_
            refine ev_aload_n dX7_text_73 rfl rfl ?_
            refine ev_getI (v := nI qcs0.length) dX7_text_74 fl_X7_123 (ly_k hI7.ly 65 rfl) ((hF7.2.2 65 35 (by omega)).trans h356) ?_
            refine ev_iast dX7_text_77 (ly_k hI7.ly 76 rfl) (am_ixn (by omega) (by decide)) ?_
            refine ev_iload_n dX7_text_78 rfl rfl ?_
            refine ev_if_eq (tgt := 93) dX7_text_79 (by decide) (fun _ => ?_) (fun c => absurd (by decide) c)
            refine ev_iconst (v := 0) dX7_text_93 (by decide) ?_
            refine ev_istore_n (lv' := [(0, .ref 65), (1, .int 0), (2, .int 1)]) dX7_text_94 rfl (by decide) rfl ?_
            refine ev_iinc (lv' := [(0, .ref 65), (1, .int 0), (2, .int 2)]) (v := 2) dX7_text_95 rfl (by decide) (by decide) rfl ?_
            refine ev_goto (tgt := 26) dX7_text_98 (by decide) ?_
            refine ev_iload_n dX7_text_26 rfl rfl ?_
            refine ev_iconst (v := 3) dX7_text_27 (by decide) ?_
            refine ev_icmp_ge (tgt := 101) dX7_text_28 (by decide) (fun c => absurd c (by decide)) (fun _ => ?_)
            refine ev_iload_n dX7_text_31 rfl rfl ?_
            refine ev_if_eq (tgt := 101) dX7_text_32 (by decide) (fun _ => ?_) (fun c => absurd (by decide) c)
            refine ev_iload_n dX7_text_101 rfl rfl ?_
            refine ev_if_eq (tgt := 122) dX7_text_102 (by decide) (fun _ => ?_) (fun c => absurd (by decide) c)
            refine ev_aload_n dX7_text_122 rfl rfl ?_
            refine ev_getR (b := 76) dX7_text_123 fl_X7_40 (ly_k (iv_M.up hI7).ly 65 rfl) (ly_r (iv_M.up hI7).ly 39 rfl) ?_
            refine ev_iconst (v := 4) dX7_text_126 (by decide) ?_
            refine ev_aload_n dX7_text_127 rfl rfl ?_
            refine ev_getI (v := nI (s_nt A)) dX7_text_128 fl_X7_97 (ly_k (iv_M.up hI7).ly 65 rfl) (am_ru (by omega) ((hI7.rd 65 14 rfl).trans ((cd_x (by decide)).trans ((tx_Bx (by omega)).trans (wt_nt hA))))) ?_
            refine ev_imul (v := nI (4 * (s_nt A))) dX7_text_131 (pk_mul 4 (s_nt A)) ?_
            refine ev_iconst (v := 3) dX7_text_132 (by decide) ?_
            refine ev_iadd (v := nI (4 * (s_nt A) + 3)) dX7_text_133 (nI_add (4 * (s_nt A)) 3) ?_
            refine ev_aload_n dX7_text_134 rfl rfl ?_
            refine ev_getI (v := nI qcs0.length) dX7_text_135 fl_X7_123 (ly_k (iv_M.up hI7).ly 65 rfl) (am_ru (by omega) ((hF7.2.2 65 35 (by omega)).trans h356)) ?_
            refine ev_iast dX7_text_138 (ly_k (iv_M.up hI7).ly 76 rfl) (am_ixn (by omega) (by decide)) ?_
            refine ev_aload_n dX7_text_139 rfl rfl ?_
            refine ev_iconst (v := 0) dX7_text_140 (by decide) ?_
            refine ev_putI dX7_text_141 fl_X7_79 rfl rfl (ly_k (iv_M.up (iv_M.up hI7)).ly 65 rfl) ?_
            refine ev_iload_n dX7_text_144 rfl rfl ?_
            refine ev_if_ne (tgt := 156) dX7_text_145 (by decide) (fun c => absurd (by decide) c) (fun _ => ?_)
            refine ev_bipush (v := (-100)) dX7_text_148 (by decide) ?_
            refine ev_aload_n dX7_text_150 rfl rfl ?_
            refine ev_getI (v := nI T7.2.1) dX7_text_151 fl_X7_110 (ly_k (iv_M.up (iv_M.up (iv_M.up hI7))).ly 65 rfl) (am_ru (by omega) (am_ru (by omega) (am_ru (by omega) ht7.2.1))) ?_
            refine ev_isub (v := (-100) - (nI T7.2.1)) dX7_text_154 rfl ?_
            refine ev_reti dX7_text_155 rfl (Nat.zero_le _) (Nat.zero_le _) ?_
            have hf := tx_2F hx hpn
            rw [← hT7] at hf
            obtain ⟨d1, d2⟩ := tx_ED (B := (am_up (am_up (cd_S (tx_B A [0]) qcs0) 76 (4 * (s_nt A) + 1) (nI qcs0.length)) 76 (4 * (s_nt A) + 3) (nI qcs0.length))) hA (tx_E1 (tx_E1 tx_E0))
            exact ⟨_, _, Or.inr ⟨hnt, d1, Or.inl ⟨hf.1, by rw [hf.2], d2⟩⟩, rfl, (iv_M.up (iv_M.up (iv_M.up hI7))), (fr_M.wr (by decide) (fr_M.wr (by decide) (fr_M.wr (by decide) (((fr_M.wr (by decide) ((fr_M.wr (by decide) (fr_M.wr (by decide) fr_M.rf)).tr hF2.M)).tr hF6).tr hF7.M))))⟩
          · skip
            refine ev_aload_n dX7_text_47 rfl rfl ?_
            refine ev_getI (v := mt_v T7.1) dX7_text_48 fl_X7_116 (ly_k hI7.ly 65 rfl) (ht7.2.2.2 (mt_kn c8)) ?_
            refine ev_iload_n dX7_text_51 rfl rfl ?_
            refine ev_icmp_ne (tgt := 59) dX7_text_52 (by decide) (fun c9 => ?_) (fun c9 => ?_)
            · skip
              have hpn := tx_pN (nx := tx_n A) (mt_kF c8 c9 (-20) (by decide) (by decide))
              rw [hT7] at hpn
              refine ev_iconst (v := 0) dX7_text_59 (by decide) ?_
              refine ev_istore_n (lv' := [(0, .ref 65), (1, .int 0), (2, .int 1)]) dX7_text_60 rfl (by decide) rfl ?_
              refine ev_aload_n dX7_text_61 rfl rfl ?_
              refine ev_getR (b := 76) dX7_text_62 fl_X7_40 (ly_k hI7.ly 65 rfl) (ly_r hI7.ly 39 rfl) ?_
              refine ev_iconst (v := 4) dX7_text_65 (by decide) ?_
              refine ev_aload_n dX7_text_66 rfl rfl ?_
              refine ev_getI (v := nI (s_nt A)) dX7_text_67 fl_X7_97 (ly_k hI7.ly 65 rfl) ((hI7.rd 65 14 rfl).trans ((cd_x (by decide)).trans ((tx_Bx (by omega)).trans (wt_nt hA)))) ?_
              refine ev_imul (v := nI (4 * (s_nt A))) dX7_text_70 (pk_mul 4 (s_nt A)) ?_
              refine ev_iload_n dX7_text_71 rfl rfl ?_
              refine ev_iadd (v := nI (4 * (s_nt A) + 1)) dX7_text_72 (nI_1 _) ?_
              refine ev_aload_n dX7_text_73 rfl rfl ?_
              refine ev_getI (v := nI qcs0.length) dX7_text_74 fl_X7_123 (ly_k hI7.ly 65 rfl) ((hF7.2.2 65 35 (by omega)).trans h356) ?_
              refine ev_iast dX7_text_77 (ly_k hI7.ly 76 rfl) (am_ixn (by omega) (by decide)) ?_
              refine ev_iload_n dX7_text_78 rfl rfl ?_
              refine ev_if_eq (tgt := 93) dX7_text_79 (by decide) (fun _ => ?_) (fun c => absurd (by decide) c)
              refine ev_iconst (v := 0) dX7_text_93 (by decide) ?_
              refine ev_istore_n (lv' := [(0, .ref 65), (1, .int 0), (2, .int 1)]) dX7_text_94 rfl (by decide) rfl ?_
              refine ev_iinc (lv' := [(0, .ref 65), (1, .int 0), (2, .int 2)]) (v := 2) dX7_text_95 rfl (by decide) (by decide) rfl ?_
              refine ev_goto (tgt := 26) dX7_text_98 (by decide) ?_
              refine ev_iload_n dX7_text_26 rfl rfl ?_
              refine ev_iconst (v := 3) dX7_text_27 (by decide) ?_
              refine ev_icmp_ge (tgt := 101) dX7_text_28 (by decide) (fun c => absurd c (by decide)) (fun _ => ?_)
              refine ev_iload_n dX7_text_31 rfl rfl ?_
              refine ev_if_eq (tgt := 101) dX7_text_32 (by decide) (fun _ => ?_) (fun c => absurd (by decide) c)
              refine ev_iload_n dX7_text_101 rfl rfl ?_
              refine ev_if_eq (tgt := 122) dX7_text_102 (by decide) (fun _ => ?_) (fun c => absurd (by decide) c)
              refine ev_aload_n dX7_text_122 rfl rfl ?_
              refine ev_getR (b := 76) dX7_text_123 fl_X7_40 (ly_k (iv_M.up hI7).ly 65 rfl) (ly_r (iv_M.up hI7).ly 39 rfl) ?_
              refine ev_iconst (v := 4) dX7_text_126 (by decide) ?_
              refine ev_aload_n dX7_text_127 rfl rfl ?_
              refine ev_getI (v := nI (s_nt A)) dX7_text_128 fl_X7_97 (ly_k (iv_M.up hI7).ly 65 rfl) (am_ru (by omega) ((hI7.rd 65 14 rfl).trans ((cd_x (by decide)).trans ((tx_Bx (by omega)).trans (wt_nt hA))))) ?_
              refine ev_imul (v := nI (4 * (s_nt A))) dX7_text_131 (pk_mul 4 (s_nt A)) ?_
              refine ev_iconst (v := 3) dX7_text_132 (by decide) ?_
              refine ev_iadd (v := nI (4 * (s_nt A) + 3)) dX7_text_133 (nI_add (4 * (s_nt A)) 3) ?_
              refine ev_aload_n dX7_text_134 rfl rfl ?_
              refine ev_getI (v := nI qcs0.length) dX7_text_135 fl_X7_123 (ly_k (iv_M.up hI7).ly 65 rfl) (am_ru (by omega) ((hF7.2.2 65 35 (by omega)).trans h356)) ?_
              refine ev_iast dX7_text_138 (ly_k (iv_M.up hI7).ly 76 rfl) (am_ixn (by omega) (by decide)) ?_
              refine ev_aload_n dX7_text_139 rfl rfl ?_
              refine ev_iconst (v := 0) dX7_text_140 (by decide) ?_
              refine ev_putI dX7_text_141 fl_X7_79 rfl rfl (ly_k (iv_M.up (iv_M.up hI7)).ly 65 rfl) ?_
              refine ev_iload_n dX7_text_144 rfl rfl ?_
              refine ev_if_ne (tgt := 156) dX7_text_145 (by decide) (fun c => absurd (by decide) c) (fun _ => ?_)
              refine ev_bipush (v := (-100)) dX7_text_148 (by decide) ?_
              refine ev_aload_n dX7_text_150 rfl rfl ?_
              refine ev_getI (v := nI T7.2.1) dX7_text_151 fl_X7_110 (ly_k (iv_M.up (iv_M.up (iv_M.up hI7))).ly 65 rfl) (am_ru (by omega) (am_ru (by omega) (am_ru (by omega) ht7.2.1))) ?_
              refine ev_isub (v := (-100) - (nI T7.2.1)) dX7_text_154 rfl ?_
              refine ev_reti dX7_text_155 rfl (Nat.zero_le _) (Nat.zero_le _) ?_
              have hf := tx_2F hx hpn
              rw [← hT7] at hf
              obtain ⟨d1, d2⟩ := tx_ED (B := (am_up (am_up (cd_S (tx_B A [0]) qcs0) 76 (4 * (s_nt A) + 1) (nI qcs0.length)) 76 (4 * (s_nt A) + 3) (nI qcs0.length))) hA (tx_E1 (tx_E1 tx_E0))
              exact ⟨_, _, Or.inr ⟨hnt, d1, Or.inl ⟨hf.1, by rw [hf.2], d2⟩⟩, rfl, (iv_M.up (iv_M.up (iv_M.up hI7))), (fr_M.wr (by decide) (fr_M.wr (by decide) (fr_M.wr (by decide) (((fr_M.wr (by decide) ((fr_M.wr (by decide) (fr_M.wr (by decide) fr_M.rf)).tr hF2.M)).tr hF6).tr hF7.M))))⟩
            · skip
              refine ev_iconst (v := 1) dX7_text_55 (by decide) ?_
              refine ev_goto (tgt := 60) dX7_text_56 (by decide) ?_
              refine ev_istore_n (lv' := [(0, .ref 65), (1, .int 1), (2, .int 1)]) dX7_text_60 rfl (by decide) rfl ?_
              refine ev_aload_n dX7_text_61 rfl rfl ?_
              refine ev_getR (b := 76) dX7_text_62 fl_X7_40 (ly_k hI7.ly 65 rfl) (ly_r hI7.ly 39 rfl) ?_
              refine ev_iconst (v := 4) dX7_text_65 (by decide) ?_
              refine ev_aload_n dX7_text_66 rfl rfl ?_
              refine ev_getI (v := nI (s_nt A)) dX7_text_67 fl_X7_97 (ly_k hI7.ly 65 rfl) ((hI7.rd 65 14 rfl).trans ((cd_x (by decide)).trans ((tx_Bx (by omega)).trans (wt_nt hA)))) ?_
              refine ev_imul (v := nI (4 * (s_nt A))) dX7_text_70 (pk_mul 4 (s_nt A)) ?_
              refine ev_iload_n dX7_text_71 rfl rfl ?_
              refine ev_iadd (v := nI (4 * (s_nt A) + 1)) dX7_text_72 (nI_1 _) ?_
              refine ev_aload_n dX7_text_73 rfl rfl ?_
              refine ev_getI (v := nI qcs0.length) dX7_text_74 fl_X7_123 (ly_k hI7.ly 65 rfl) ((hF7.2.2 65 35 (by omega)).trans h356) ?_
              refine ev_iast dX7_text_77 (ly_k hI7.ly 76 rfl) (am_ixn (by omega) (by decide)) ?_
              have hIs10 : iv_M (cd_S (tx_B A [qcs0.length, 0]) qcs0) (am_sI σ7 76 (4 * (s_nt A) + 1) (nI qcs0.length)) := by rw [tx_Bup]; exact (iv_M.up hI7)
              refine ev_iload_n dX7_text_78 rfl rfl ?_
              refine ev_if_eq (tgt := 93) dX7_text_79 (by decide) (fun c => absurd c (by decide)) (fun _ => ?_)
              refine ev_aload_n dX7_text_82 rfl rfl ?_
              have ha11 : (am_sI σ7 76 (4 * (s_nt A) + 1) (nI qcs0.length)).2.1 65 27 = nI T7.2.2 := (am_ru (by omega) ht7.1)
              have ho11 : (am_sI σ7 76 (4 * (s_nt A) + 1) (nI qcs0.length)).2.1 65 35 = nI qcs0.length := (am_ru (by omega) ((hF7.2.2 65 35 (by omega)).trans h356))
              refine ev_callV (as := []) (st := []) dX7_text_83 mfX7_eRead lk_X7_159 (ly_k hIs10.ly 65 rfl) (by decide) rfl (c_X7_eRead G D (tx_B A [qcs0.length, 0]) (am_sI σ7 76 (4 * (s_nt A) + 1) (nI qcs0.length)) (tx_BT hA) (tx_BW hW) (by rw [tx_Bnt]; exact hnt) qcs0 T7.2.2 hIs10 ha11 ho11 (by rw [tx_Btp]; exact ka7) (by omega)) rfl rfl (Nat.le_of_ble_eq_true rfl) (am_hR (by omega) (by decide)) ⟨Nat.le_refl _, Nat.le_refl _⟩ ?_
              rintro _ σ11 ⟨⟨b, m11, R11⟩, l11, hcv, rfl, hsuc, ht11, hI11, h3511, hl11, hR11, hF11⟩
              rw [tx_B74, tx_Btp] at hcv
              rw [tx_Btp] at hR11
              dsimp only at hsuc ht11 hl11 hR11
              have hkey : T7.1 = -20 := (mt_k c8 c9).1.trans (by decide)
              cases b with
              | true =>
                obtain ⟨qcs1, e1, hp1⟩ := tx_t1 (nx := tx_n A) h160 hX hkey ka7 hcv
                have e2 := hsuc rfl
                subst e2
                have e3 := e1.symm
                subst e3
                rw [hT7] at hp1
                have hy := tx_2T hx hp1
                rw [List.length_append] at hl11
                refine ev_if_eq (tgt := 93) dX7_text_86 (by decide) (fun c => absurd c (show ¬ (1 : Int32) = 0 by decide)) (fun _ => ?_)
                refine ev_iconst (v := 1) dX7_text_89 (by decide) ?_
                refine ev_goto (tgt := 94) dX7_text_90 (by decide) ?_
                refine ev_istore_n (lv' := [(0, .ref 65), (1, .int 1), (2, .int 1)]) dX7_text_94 rfl (by decide) rfl ?_
                refine ev_iinc (lv' := [(0, .ref 65), (1, .int 1), (2, .int 2)]) (v := 2) dX7_text_95 rfl (by decide) (by decide) rfl ?_
                refine ev_goto (tgt := 26) dX7_text_98 (by decide) ?_
                refine ev_iload_n dX7_text_26 rfl rfl ?_
                refine ev_iconst (v := 3) dX7_text_27 (by decide) ?_
                refine ev_icmp_ge (tgt := 101) dX7_text_28 (by decide) (fun c => absurd c (by decide)) (fun _ => ?_)
                refine ev_iload_n dX7_text_31 rfl rfl ?_
                refine ev_if_eq (tgt := 101) dX7_text_32 (by decide) (fun c => absurd c (by decide)) (fun _ => ?_)
                refine ev_aload_n dX7_text_35 rfl rfl ?_
                have ha12 : σ11.2.1 65 27 = nI R11.2.2 := ht11.1
                have hn12 : R11.2.2 ≤ s_tp A := hR11
                refine ev_callV (as := []) (st := []) dX7_text_36 mfX7_next lk_X7_146 (ly_k hI11.ly 65 rfl) (by decide) rfl (c_X7_next G (D + 2) (cd_S (tx_B A [qcs0.length, 0]) (qcs0 ++ qcs1)) σ11 (wt_cd (tx_BT hA)) hI11 (wo_cd (tx_BW hW)) R11.2.2 ha12 (by rw [cd_tp, tx_Btp]; exact hn12)) rfl rfl (Nat.le_of_ble_eq_true rfl) (am_hR (by omega) (by decide)) ⟨Nat.le_refl _, Nat.le_refl _⟩ ?_
                rintro _ σ12 ⟨rfl, hI12, hF12, ht12⟩
                rw [cd_74, cd_tp, tx_B74, tx_Btp] at ht12
                have hK12 := (hX R11.2.2 hn12).1.1
                have hG12 := (hX R11.2.2 hn12).2
                obtain ⟨T12, hT12⟩ : ∃ T, T = tx_n A R11.2.2 := ⟨_, rfl⟩
                rw [show lx_nx (A 74) (s_tp A) R11.2.2 = tx_n A R11.2.2 from rfl, ← hT12] at ht12
                rw [← hT12] at hK12 hG12
                obtain ⟨kp12, ka12, kb12, kc12⟩ := hK12
                refine ev_aload_n dX7_text_39 rfl rfl ?_
                refine ev_getI (v := mt_t T12.1) dX7_text_40 fl_X7_113 (ly_k hI12.ly 65 rfl) ht12.2.2.1 ?_
                refine ev_iconst (v := 3) dX7_text_43 (by decide) ?_
                refine ev_icmp_ne (tgt := 59) dX7_text_44 (by decide) (fun c13 => ?_) (fun c13 => ?_)
                · skip
                  have hpn := tx_pN (nx := tx_n A) (mt_kG c13 (-21) (by decide))
                  rw [hT12] at hpn
                  refine ev_iconst (v := 0) dX7_text_59 (by decide) ?_
                  refine ev_istore_n (lv' := [(0, .ref 65), (1, .int 0), (2, .int 2)]) dX7_text_60 rfl (by decide) rfl ?_
                  refine ev_aload_n dX7_text_61 rfl rfl ?_
                  refine ev_getR (b := 76) dX7_text_62 fl_X7_40 (ly_k hI12.ly 65 rfl) (ly_r hI12.ly 39 rfl) ?_
                  refine ev_iconst (v := 4) dX7_text_65 (by decide) ?_
                  refine ev_aload_n dX7_text_66 rfl rfl ?_
                  refine ev_getI (v := nI (s_nt A)) dX7_text_67 fl_X7_97 (ly_k hI12.ly 65 rfl) ((hI12.rd 65 14 rfl).trans ((cd_x (by decide)).trans ((tx_Bx (by omega)).trans (wt_nt hA)))) ?_
                  refine ev_imul (v := nI (4 * (s_nt A))) dX7_text_70 (pk_mul 4 (s_nt A)) ?_
                  refine ev_iload_n dX7_text_71 rfl rfl ?_
                  refine ev_iadd (v := nI (4 * (s_nt A) + 2)) dX7_text_72 (nI_add (4 * (s_nt A)) 2) ?_
                  refine ev_aload_n dX7_text_73 rfl rfl ?_
                  refine ev_getI (v := nI ((qcs0 ++ qcs1).length)) dX7_text_74 fl_X7_123 (ly_k hI12.ly 65 rfl) ((hF12.2.2 65 35 (by omega)).trans h3511) ?_
                  refine ev_iast dX7_text_77 (ly_k hI12.ly 76 rfl) (am_ixn (by omega) (by decide)) ?_
                  refine ev_iload_n dX7_text_78 rfl rfl ?_
                  refine ev_if_eq (tgt := 93) dX7_text_79 (by decide) (fun _ => ?_) (fun c => absurd (by decide) c)
                  refine ev_iconst (v := 0) dX7_text_93 (by decide) ?_
                  refine ev_istore_n (lv' := [(0, .ref 65), (1, .int 0), (2, .int 2)]) dX7_text_94 rfl (by decide) rfl ?_
                  refine ev_iinc (lv' := [(0, .ref 65), (1, .int 0), (2, .int 3)]) (v := 3) dX7_text_95 rfl (by decide) (by decide) rfl ?_
                  refine ev_goto (tgt := 26) dX7_text_98 (by decide) ?_
                  refine ev_iload_n dX7_text_26 rfl rfl ?_
                  refine ev_iconst (v := 3) dX7_text_27 (by decide) ?_
                  refine ev_icmp_ge (tgt := 101) dX7_text_28 (by decide) (fun _ => ?_) (fun c => absurd (by decide) c)
                  refine ev_iload_n dX7_text_101 rfl rfl ?_
                  refine ev_if_eq (tgt := 122) dX7_text_102 (by decide) (fun _ => ?_) (fun c => absurd (by decide) c)
                  refine ev_aload_n dX7_text_122 rfl rfl ?_
                  refine ev_getR (b := 76) dX7_text_123 fl_X7_40 (ly_k (iv_M.up hI12).ly 65 rfl) (ly_r (iv_M.up hI12).ly 39 rfl) ?_
                  refine ev_iconst (v := 4) dX7_text_126 (by decide) ?_
                  refine ev_aload_n dX7_text_127 rfl rfl ?_
                  refine ev_getI (v := nI (s_nt A)) dX7_text_128 fl_X7_97 (ly_k (iv_M.up hI12).ly 65 rfl) (am_ru (by omega) ((hI12.rd 65 14 rfl).trans ((cd_x (by decide)).trans ((tx_Bx (by omega)).trans (wt_nt hA))))) ?_
                  refine ev_imul (v := nI (4 * (s_nt A))) dX7_text_131 (pk_mul 4 (s_nt A)) ?_
                  refine ev_iconst (v := 3) dX7_text_132 (by decide) ?_
                  refine ev_iadd (v := nI (4 * (s_nt A) + 3)) dX7_text_133 (nI_add (4 * (s_nt A)) 3) ?_
                  refine ev_aload_n dX7_text_134 rfl rfl ?_
                  refine ev_getI (v := nI ((qcs0 ++ qcs1).length)) dX7_text_135 fl_X7_123 (ly_k (iv_M.up hI12).ly 65 rfl) (am_ru (by omega) ((hF12.2.2 65 35 (by omega)).trans h3511)) ?_
                  refine ev_iast dX7_text_138 (ly_k (iv_M.up hI12).ly 76 rfl) (am_ixn (by omega) (by decide)) ?_
                  refine ev_aload_n dX7_text_139 rfl rfl ?_
                  refine ev_iconst (v := 0) dX7_text_140 (by decide) ?_
                  refine ev_putI dX7_text_141 fl_X7_79 rfl rfl (ly_k (iv_M.up (iv_M.up hI12)).ly 65 rfl) ?_
                  refine ev_iload_n dX7_text_144 rfl rfl ?_
                  refine ev_if_ne (tgt := 156) dX7_text_145 (by decide) (fun c => absurd (by decide) c) (fun _ => ?_)
                  refine ev_bipush (v := (-100)) dX7_text_148 (by decide) ?_
                  refine ev_aload_n dX7_text_150 rfl rfl ?_
                  refine ev_getI (v := nI T12.2.1) dX7_text_151 fl_X7_110 (ly_k (iv_M.up (iv_M.up (iv_M.up hI12))).ly 65 rfl) (am_ru (by omega) (am_ru (by omega) (am_ru (by omega) ht12.2.1))) ?_
                  refine ev_isub (v := (-100) - (nI T12.2.1)) dX7_text_154 rfl ?_
                  refine ev_reti dX7_text_155 rfl (Nat.zero_le _) (Nat.zero_le _) ?_
                  have hf := tx_3F hy hpn
                  rw [← hT12] at hf
                  obtain ⟨d1, d2⟩ := tx_ED (B := (am_up (am_up (cd_S (tx_B A [qcs0.length, 0]) (qcs0 ++ qcs1)) 76 (4 * (s_nt A) + 2) (nI ((qcs0 ++ qcs1).length))) 76 (4 * (s_nt A) + 3) (nI ((qcs0 ++ qcs1).length)))) hA (tx_E1 (tx_E1 tx_E0))
                  exact ⟨_, _, Or.inr ⟨hnt, d1, Or.inl ⟨hf.1, by rw [hf.2], d2⟩⟩, rfl, (iv_M.up (iv_M.up (iv_M.up hI12))), (fr_M.wr (by decide) (fr_M.wr (by decide) (fr_M.wr (by decide) (((fr_M.wr (by decide) (((fr_M.wr (by decide) ((fr_M.wr (by decide) (fr_M.wr (by decide) fr_M.rf)).tr hF2.M)).tr hF6).tr hF7.M)).tr hF11).tr hF12.M))))⟩
                · skip
                  refine ev_aload_n dX7_text_47 rfl rfl ?_
                  refine ev_getI (v := mt_v T12.1) dX7_text_48 fl_X7_116 (ly_k hI12.ly 65 rfl) (ht12.2.2.2 (mt_kn c13)) ?_
                  refine ev_iload_n dX7_text_51 rfl rfl ?_
                  refine ev_icmp_ne (tgt := 59) dX7_text_52 (by decide) (fun c14 => ?_) (fun c14 => ?_)
                  · skip
                    have hpn := tx_pN (nx := tx_n A) (mt_kF c13 c14 (-21) (by decide) (by decide))
                    rw [hT12] at hpn
                    refine ev_iconst (v := 0) dX7_text_59 (by decide) ?_
                    refine ev_istore_n (lv' := [(0, .ref 65), (1, .int 0), (2, .int 2)]) dX7_text_60 rfl (by decide) rfl ?_
                    refine ev_aload_n dX7_text_61 rfl rfl ?_
                    refine ev_getR (b := 76) dX7_text_62 fl_X7_40 (ly_k hI12.ly 65 rfl) (ly_r hI12.ly 39 rfl) ?_
                    refine ev_iconst (v := 4) dX7_text_65 (by decide) ?_
                    refine ev_aload_n dX7_text_66 rfl rfl ?_
                    refine ev_getI (v := nI (s_nt A)) dX7_text_67 fl_X7_97 (ly_k hI12.ly 65 rfl) ((hI12.rd 65 14 rfl).trans ((cd_x (by decide)).trans ((tx_Bx (by omega)).trans (wt_nt hA)))) ?_
                    refine ev_imul (v := nI (4 * (s_nt A))) dX7_text_70 (pk_mul 4 (s_nt A)) ?_
                    refine ev_iload_n dX7_text_71 rfl rfl ?_
                    refine ev_iadd (v := nI (4 * (s_nt A) + 2)) dX7_text_72 (nI_add (4 * (s_nt A)) 2) ?_
                    refine ev_aload_n dX7_text_73 rfl rfl ?_
                    refine ev_getI (v := nI ((qcs0 ++ qcs1).length)) dX7_text_74 fl_X7_123 (ly_k hI12.ly 65 rfl) ((hF12.2.2 65 35 (by omega)).trans h3511) ?_
                    refine ev_iast dX7_text_77 (ly_k hI12.ly 76 rfl) (am_ixn (by omega) (by decide)) ?_
                    refine ev_iload_n dX7_text_78 rfl rfl ?_
                    refine ev_if_eq (tgt := 93) dX7_text_79 (by decide) (fun _ => ?_) (fun c => absurd (by decide) c)
                    refine ev_iconst (v := 0) dX7_text_93 (by decide) ?_
                    refine ev_istore_n (lv' := [(0, .ref 65), (1, .int 0), (2, .int 2)]) dX7_text_94 rfl (by decide) rfl ?_
                    refine ev_iinc (lv' := [(0, .ref 65), (1, .int 0), (2, .int 3)]) (v := 3) dX7_text_95 rfl (by decide) (by decide) rfl ?_
                    refine ev_goto (tgt := 26) dX7_text_98 (by decide) ?_
                    refine ev_iload_n dX7_text_26 rfl rfl ?_
                    refine ev_iconst (v := 3) dX7_text_27 (by decide) ?_
                    refine ev_icmp_ge (tgt := 101) dX7_text_28 (by decide) (fun _ => ?_) (fun c => absurd (by decide) c)
                    refine ev_iload_n dX7_text_101 rfl rfl ?_
                    refine ev_if_eq (tgt := 122) dX7_text_102 (by decide) (fun _ => ?_) (fun c => absurd (by decide) c)
                    refine ev_aload_n dX7_text_122 rfl rfl ?_
                    refine ev_getR (b := 76) dX7_text_123 fl_X7_40 (ly_k (iv_M.up hI12).ly 65 rfl) (ly_r (iv_M.up hI12).ly 39 rfl) ?_
                    refine ev_iconst (v := 4) dX7_text_126 (by decide) ?_
                    refine ev_aload_n dX7_text_127 rfl rfl ?_
                    refine ev_getI (v := nI (s_nt A)) dX7_text_128 fl_X7_97 (ly_k (iv_M.up hI12).ly 65 rfl) (am_ru (by omega) ((hI12.rd 65 14 rfl).trans ((cd_x (by decide)).trans ((tx_Bx (by omega)).trans (wt_nt hA))))) ?_
                    refine ev_imul (v := nI (4 * (s_nt A))) dX7_text_131 (pk_mul 4 (s_nt A)) ?_
                    refine ev_iconst (v := 3) dX7_text_132 (by decide) ?_
                    refine ev_iadd (v := nI (4 * (s_nt A) + 3)) dX7_text_133 (nI_add (4 * (s_nt A)) 3) ?_
                    refine ev_aload_n dX7_text_134 rfl rfl ?_
                    refine ev_getI (v := nI ((qcs0 ++ qcs1).length)) dX7_text_135 fl_X7_123 (ly_k (iv_M.up hI12).ly 65 rfl) (am_ru (by omega) ((hF12.2.2 65 35 (by omega)).trans h3511)) ?_
                    refine ev_iast dX7_text_138 (ly_k (iv_M.up hI12).ly 76 rfl) (am_ixn (by omega) (by decide)) ?_
                    refine ev_aload_n dX7_text_139 rfl rfl ?_
                    refine ev_iconst (v := 0) dX7_text_140 (by decide) ?_
                    refine ev_putI dX7_text_141 fl_X7_79 rfl rfl (ly_k (iv_M.up (iv_M.up hI12)).ly 65 rfl) ?_
                    refine ev_iload_n dX7_text_144 rfl rfl ?_
                    refine ev_if_ne (tgt := 156) dX7_text_145 (by decide) (fun c => absurd (by decide) c) (fun _ => ?_)
                    refine ev_bipush (v := (-100)) dX7_text_148 (by decide) ?_
                    refine ev_aload_n dX7_text_150 rfl rfl ?_
                    refine ev_getI (v := nI T12.2.1) dX7_text_151 fl_X7_110 (ly_k (iv_M.up (iv_M.up (iv_M.up hI12))).ly 65 rfl) (am_ru (by omega) (am_ru (by omega) (am_ru (by omega) ht12.2.1))) ?_
                    refine ev_isub (v := (-100) - (nI T12.2.1)) dX7_text_154 rfl ?_
                    refine ev_reti dX7_text_155 rfl (Nat.zero_le _) (Nat.zero_le _) ?_
                    have hf := tx_3F hy hpn
                    rw [← hT12] at hf
                    obtain ⟨d1, d2⟩ := tx_ED (B := (am_up (am_up (cd_S (tx_B A [qcs0.length, 0]) (qcs0 ++ qcs1)) 76 (4 * (s_nt A) + 2) (nI ((qcs0 ++ qcs1).length))) 76 (4 * (s_nt A) + 3) (nI ((qcs0 ++ qcs1).length)))) hA (tx_E1 (tx_E1 tx_E0))
                    exact ⟨_, _, Or.inr ⟨hnt, d1, Or.inl ⟨hf.1, by rw [hf.2], d2⟩⟩, rfl, (iv_M.up (iv_M.up (iv_M.up hI12))), (fr_M.wr (by decide) (fr_M.wr (by decide) (fr_M.wr (by decide) (((fr_M.wr (by decide) (((fr_M.wr (by decide) ((fr_M.wr (by decide) (fr_M.wr (by decide) fr_M.rf)).tr hF2.M)).tr hF6).tr hF7.M)).tr hF11).tr hF12.M))))⟩
                  · skip
                    refine ev_iconst (v := 1) dX7_text_55 (by decide) ?_
                    refine ev_goto (tgt := 60) dX7_text_56 (by decide) ?_
                    refine ev_istore_n (lv' := [(0, .ref 65), (1, .int 1), (2, .int 2)]) dX7_text_60 rfl (by decide) rfl ?_
                    refine ev_aload_n dX7_text_61 rfl rfl ?_
                    refine ev_getR (b := 76) dX7_text_62 fl_X7_40 (ly_k hI12.ly 65 rfl) (ly_r hI12.ly 39 rfl) ?_
                    refine ev_iconst (v := 4) dX7_text_65 (by decide) ?_
                    refine ev_aload_n dX7_text_66 rfl rfl ?_
                    refine ev_getI (v := nI (s_nt A)) dX7_text_67 fl_X7_97 (ly_k hI12.ly 65 rfl) ((hI12.rd 65 14 rfl).trans ((cd_x (by decide)).trans ((tx_Bx (by omega)).trans (wt_nt hA)))) ?_
                    refine ev_imul (v := nI (4 * (s_nt A))) dX7_text_70 (pk_mul 4 (s_nt A)) ?_
                    refine ev_iload_n dX7_text_71 rfl rfl ?_
                    refine ev_iadd (v := nI (4 * (s_nt A) + 2)) dX7_text_72 (nI_add (4 * (s_nt A)) 2) ?_
                    refine ev_aload_n dX7_text_73 rfl rfl ?_
                    refine ev_getI (v := nI ((qcs0 ++ qcs1).length)) dX7_text_74 fl_X7_123 (ly_k hI12.ly 65 rfl) ((hF12.2.2 65 35 (by omega)).trans h3511) ?_
                    refine ev_iast dX7_text_77 (ly_k hI12.ly 76 rfl) (am_ixn (by omega) (by decide)) ?_
                    have hIs15 : iv_M (cd_S (tx_B A [(qcs0 ++ qcs1).length, qcs0.length, 0]) (qcs0 ++ qcs1)) (am_sI σ12 76 (4 * (s_nt A) + 2) (nI ((qcs0 ++ qcs1).length))) := by rw [tx_Bup]; exact (iv_M.up hI12)
                    refine ev_iload_n dX7_text_78 rfl rfl ?_
                    refine ev_if_eq (tgt := 93) dX7_text_79 (by decide) (fun c => absurd c (by decide)) (fun _ => ?_)
                    refine ev_aload_n dX7_text_82 rfl rfl ?_
                    have ha16 : (am_sI σ12 76 (4 * (s_nt A) + 2) (nI ((qcs0 ++ qcs1).length))).2.1 65 27 = nI T12.2.2 := (am_ru (by omega) ht12.1)
                    have ho16 : (am_sI σ12 76 (4 * (s_nt A) + 2) (nI ((qcs0 ++ qcs1).length))).2.1 65 35 = nI (qcs0 ++ qcs1).length := (am_ru (by omega) ((hF12.2.2 65 35 (by omega)).trans h3511))
                    refine ev_callV (as := []) (st := []) dX7_text_83 mfX7_eRead lk_X7_159 (ly_k hIs15.ly 65 rfl) (by decide) rfl (c_X7_eRead G D (tx_B A [(qcs0 ++ qcs1).length, qcs0.length, 0]) (am_sI σ12 76 (4 * (s_nt A) + 2) (nI ((qcs0 ++ qcs1).length))) (tx_BT hA) (tx_BW hW) (by rw [tx_Bnt]; exact hnt) (qcs0 ++ qcs1) T12.2.2 hIs15 ha16 ho16 (by rw [tx_Btp]; exact ka12) (by rw [List.length_append]; omega)) rfl rfl (Nat.le_of_ble_eq_true rfl) (am_hR (by omega) (by decide)) ⟨Nat.le_refl _, Nat.le_refl _⟩ ?_
                    rintro _ σ16 ⟨⟨b, m16, R16⟩, l16, hcv, rfl, hsuc, ht16, hI16, h3516, hl16, hR16, hF16⟩
                    rw [tx_B74, tx_Btp] at hcv
                    rw [tx_Btp] at hR16
                    dsimp only at hsuc ht16 hl16 hR16
                    have hkey : T12.1 = -21 := (mt_k c13 c14).1.trans (by decide)
                    cases b with
                    | true =>
                      obtain ⟨qcs2, e1, hp2⟩ := tx_t1 (nx := tx_n A) h160 hX hkey ka12 hcv
                      have e2 := hsuc rfl
                      subst e2
                      have e3 := e1.symm
                      subst e3
                      rw [hT12] at hp2
                      skip
                      rw [List.length_append, List.length_append] at hl16
                      refine ev_if_eq (tgt := 93) dX7_text_86 (by decide) (fun c => absurd c (show ¬ (1 : Int32) = 0 by decide)) (fun _ => ?_)
                      refine ev_iconst (v := 1) dX7_text_89 (by decide) ?_
                      refine ev_goto (tgt := 94) dX7_text_90 (by decide) ?_
                      refine ev_istore_n (lv' := [(0, .ref 65), (1, .int 1), (2, .int 2)]) dX7_text_94 rfl (by decide) rfl ?_
                      refine ev_iinc (lv' := [(0, .ref 65), (1, .int 1), (2, .int 3)]) (v := 3) dX7_text_95 rfl (by decide) (by decide) rfl ?_
                      refine ev_goto (tgt := 26) dX7_text_98 (by decide) ?_
                      refine ev_iload_n dX7_text_26 rfl rfl ?_
                      refine ev_iconst (v := 3) dX7_text_27 (by decide) ?_
                      refine ev_icmp_ge (tgt := 101) dX7_text_28 (by decide) (fun _ => ?_) (fun c => absurd (by decide) c)
                      refine ev_iload_n dX7_text_101 rfl rfl ?_
                      refine ev_if_eq (tgt := 122) dX7_text_102 (by decide) (fun c => absurd c (by decide)) (fun _ => ?_)
                      refine ev_aload_n dX7_text_105 rfl rfl ?_
                      have ha17 : σ16.2.1 65 27 = nI R16.2.2 := ht16.1
                      have hn17 : R16.2.2 ≤ s_tp A := hR16
                      refine ev_callV (as := []) (st := []) dX7_text_106 mfX7_next lk_X7_146 (ly_k hI16.ly 65 rfl) (by decide) rfl (c_X7_next G (D + 2) (cd_S (tx_B A [(qcs0 ++ qcs1).length, qcs0.length, 0]) (qcs0 ++ qcs1 ++ qcs2)) σ16 (wt_cd (tx_BT hA)) hI16 (wo_cd (tx_BW hW)) R16.2.2 ha17 (by rw [cd_tp, tx_Btp]; exact hn17)) rfl rfl (Nat.le_of_ble_eq_true rfl) (am_hR (by omega) (by decide)) ⟨Nat.le_refl _, Nat.le_refl _⟩ ?_
                      rintro _ σ17 ⟨rfl, hI17, hF17, ht17⟩
                      rw [cd_74, cd_tp, tx_B74, tx_Btp] at ht17
                      have hK17 := (hX R16.2.2 hn17).1.1
                      have hG17 := (hX R16.2.2 hn17).2
                      obtain ⟨T17, hT17⟩ : ∃ T, T = tx_n A R16.2.2 := ⟨_, rfl⟩
                      rw [show lx_nx (A 74) (s_tp A) R16.2.2 = tx_n A R16.2.2 from rfl, ← hT17] at ht17
                      rw [← hT17] at hK17 hG17
                      obtain ⟨kp17, ka17, kb17, kc17⟩ := hK17
                      refine ev_aload_n dX7_text_109 rfl rfl ?_
                      refine ev_getI (v := mt_t T17.1) dX7_text_110 fl_X7_113 (ly_k hI17.ly 65 rfl) ht17.2.2.1 ?_
                      refine ev_if_ne (tgt := 120) dX7_text_113 (by decide) (fun c18 => ?_) (fun c18 => ?_)
                      · skip
                        refine ev_iconst (v := 0) dX7_text_120 (by decide) ?_
                        refine ev_istore_n (lv' := [(0, .ref 65), (1, .int 0), (2, .int 3)]) dX7_text_121 rfl (by decide) rfl ?_
                        refine ev_aload_n dX7_text_122 rfl rfl ?_
                        refine ev_getR (b := 76) dX7_text_123 fl_X7_40 (ly_k hI17.ly 65 rfl) (ly_r hI17.ly 39 rfl) ?_
                        refine ev_iconst (v := 4) dX7_text_126 (by decide) ?_
                        refine ev_aload_n dX7_text_127 rfl rfl ?_
                        refine ev_getI (v := nI (s_nt A)) dX7_text_128 fl_X7_97 (ly_k hI17.ly 65 rfl) ((hI17.rd 65 14 rfl).trans ((cd_x (by decide)).trans ((tx_Bx (by omega)).trans (wt_nt hA)))) ?_
                        refine ev_imul (v := nI (4 * (s_nt A))) dX7_text_131 (pk_mul 4 (s_nt A)) ?_
                        refine ev_iconst (v := 3) dX7_text_132 (by decide) ?_
                        refine ev_iadd (v := nI (4 * (s_nt A) + 3)) dX7_text_133 (nI_add (4 * (s_nt A)) 3) ?_
                        refine ev_aload_n dX7_text_134 rfl rfl ?_
                        refine ev_getI (v := nI ((qcs0 ++ qcs1 ++ qcs2).length)) dX7_text_135 fl_X7_123 (ly_k hI17.ly 65 rfl) ((hF17.2.2 65 35 (by omega)).trans h3516) ?_
                        refine ev_iast dX7_text_138 (ly_k hI17.ly 76 rfl) (am_ixn (by omega) (by decide)) ?_
                        refine ev_aload_n dX7_text_139 rfl rfl ?_
                        refine ev_iconst (v := 0) dX7_text_140 (by decide) ?_
                        refine ev_putI dX7_text_141 fl_X7_79 rfl rfl (ly_k (iv_M.up hI17).ly 65 rfl) ?_
                        refine ev_iload_n dX7_text_144 rfl rfl ?_
                        refine ev_if_ne (tgt := 156) dX7_text_145 (by decide) (fun c => absurd (by decide) c) (fun _ => ?_)
                        refine ev_bipush (v := (-100)) dX7_text_148 (by decide) ?_
                        refine ev_aload_n dX7_text_150 rfl rfl ?_
                        refine ev_getI (v := nI T17.2.1) dX7_text_151 fl_X7_110 (ly_k (iv_M.up (iv_M.up hI17)).ly 65 rfl) (am_ru (by omega) (am_ru (by omega) ht17.2.1)) ?_
                        refine ev_isub (v := (-100) - (nI T17.2.1)) dX7_text_154 rfl ?_
                        refine ev_reti dX7_text_155 rfl (Nat.zero_le _) (Nat.zero_le _) ?_
                        have hf := tx_4F hy hp2 (by rw [← hT17]; exact fun z => absurd (mt_22 z) c18)
                        rw [← hT17] at hf
                        obtain ⟨d1, d2⟩ := tx_ED (B := (am_up (cd_S (tx_B A [(qcs0 ++ qcs1).length, qcs0.length, 0]) (qcs0 ++ qcs1 ++ qcs2)) 76 (4 * (s_nt A) + 3) (nI ((qcs0 ++ qcs1 ++ qcs2).length)))) hA (tx_E1 tx_E0)
                        exact ⟨_, _, Or.inr ⟨hnt, d1, Or.inl ⟨hf.1, by rw [hf.2], d2⟩⟩, rfl, (iv_M.up (iv_M.up hI17)), (fr_M.wr (by decide) (fr_M.wr (by decide) (((fr_M.wr (by decide) (((fr_M.wr (by decide) (((fr_M.wr (by decide) ((fr_M.wr (by decide) (fr_M.wr (by decide) fr_M.rf)).tr hF2.M)).tr hF6).tr hF7.M)).tr hF11).tr hF12.M)).tr hF16).tr hF17.M)))⟩
                      · skip
                        refine ev_iconst (v := 1) dX7_text_116 (by decide) ?_
                        refine ev_goto (tgt := 121) dX7_text_117 (by decide) ?_
                        refine ev_istore_n (lv' := [(0, .ref 65), (1, .int 1), (2, .int 3)]) dX7_text_121 rfl (by decide) rfl ?_
                        refine ev_aload_n dX7_text_122 rfl rfl ?_
                        refine ev_getR (b := 76) dX7_text_123 fl_X7_40 (ly_k hI17.ly 65 rfl) (ly_r hI17.ly 39 rfl) ?_
                        refine ev_iconst (v := 4) dX7_text_126 (by decide) ?_
                        refine ev_aload_n dX7_text_127 rfl rfl ?_
                        refine ev_getI (v := nI (s_nt A)) dX7_text_128 fl_X7_97 (ly_k hI17.ly 65 rfl) ((hI17.rd 65 14 rfl).trans ((cd_x (by decide)).trans ((tx_Bx (by omega)).trans (wt_nt hA)))) ?_
                        refine ev_imul (v := nI (4 * (s_nt A))) dX7_text_131 (pk_mul 4 (s_nt A)) ?_
                        refine ev_iconst (v := 3) dX7_text_132 (by decide) ?_
                        refine ev_iadd (v := nI (4 * (s_nt A) + 3)) dX7_text_133 (nI_add (4 * (s_nt A)) 3) ?_
                        refine ev_aload_n dX7_text_134 rfl rfl ?_
                        refine ev_getI (v := nI ((qcs0 ++ qcs1 ++ qcs2).length)) dX7_text_135 fl_X7_123 (ly_k hI17.ly 65 rfl) ((hF17.2.2 65 35 (by omega)).trans h3516) ?_
                        refine ev_iast dX7_text_138 (ly_k hI17.ly 76 rfl) (am_ixn (by omega) (by decide)) ?_
                        have hIs19 : iv_M (cd_S (tx_B A [(qcs0 ++ qcs1 ++ qcs2).length, (qcs0 ++ qcs1).length, qcs0.length, 0]) (qcs0 ++ qcs1 ++ qcs2)) (am_sI σ17 76 (4 * (s_nt A) + 3) (nI ((qcs0 ++ qcs1 ++ qcs2).length))) := by rw [tx_Bup]; exact (iv_M.up hI17)
                        refine ev_aload_n dX7_text_139 rfl rfl ?_
                        refine ev_iconst (v := 0) dX7_text_140 (by decide) ?_
                        refine ev_putI dX7_text_141 fl_X7_79 rfl rfl (ly_k hIs19.ly 65 rfl) ?_
                        refine ev_iload_n dX7_text_144 rfl rfl ?_
                        refine ev_if_ne (tgt := 156) dX7_text_145 (by decide) (fun _ => ?_) (fun c => absurd c (by decide))
                        refine ev_aload_n dX7_text_156 rfl rfl ?_
                        refine ev_dup dX7_text_157 rfl ?_
                        refine ev_getI (v := nI (s_nt A)) dX7_text_158 fl_X7_97 (ly_k (iv_M.up hIs19).ly 65 rfl) (am_ru (by omega) (am_ru (by omega) ((hI17.rd 65 14 rfl).trans ((cd_x (by decide)).trans ((tx_Bx (by omega)).trans (wt_nt hA)))))) ?_
                        refine ev_iconst (v := 1) dX7_text_161 (by decide) ?_
                        refine ev_iadd (v := nI (s_nt A + 1)) dX7_text_162 (nI_1 _) ?_
                        refine ev_putI dX7_text_163 fl_X7_97 rfl rfl (ly_k (iv_M.up hIs19).ly 65 rfl) ?_
                        refine ev_aload_n dX7_text_166 rfl rfl ?_
                        refine ev_getI (v := nI (s_nt A + 1)) dX7_text_167 fl_X7_97 (ly_k (iv_M.up (iv_M.up hIs19)).ly 65 rfl) am_rs ?_
                        refine ev_iconst (v := 1) dX7_text_170 (by decide) ?_
                        refine ev_isub (v := nI (s_nt A)) dX7_text_171 (nI_pred _) ?_
                        refine ev_reti dX7_text_172 rfl (Nat.zero_le _) (Nat.zero_le _) ?_
                        have hf := tx_4T hy hp2 (by rw [← hT17]; exact mt_q0 c18)
                        refine ⟨_, _, Or.inr ⟨hnt, tx_D2, Or.inr ⟨hf.1, rfl, am_us, ?_⟩⟩, rfl, (iv_M.up (iv_M.up hIs19)), (fr_M.wr (by decide) (fr_M.wr (by decide) (fr_M.wr (by decide) (((fr_M.wr (by decide) (((fr_M.wr (by decide) (((fr_M.wr (by decide) ((fr_M.wr (by decide) (fr_M.wr (by decide) fr_M.rf)).tr hF2.M)).tr hF6).tr hF7.M)).tr hF11).tr hF12.M)).tr hF16).tr hF17.M))))⟩
                        rw [hf.2]
                        exact tx_K1
                    | false =>
                      have hp2 := tx_t0 (nx := tx_n A) h160 hX hkey ka12 hcv
                      rw [hT12] at hp2
                      refine ev_if_eq (tgt := 93) dX7_text_86 (by decide) (fun _ => ?_) (fun c => absurd (show (0 : Int32) = 0 from rfl) c)
                      refine ev_iconst (v := 0) dX7_text_93 (by decide) ?_
                      refine ev_istore_n (lv' := [(0, .ref 65), (1, .int 0), (2, .int 2)]) dX7_text_94 rfl (by decide) rfl ?_
                      refine ev_iinc (lv' := [(0, .ref 65), (1, .int 0), (2, .int 3)]) (v := 3) dX7_text_95 rfl (by decide) (by decide) rfl ?_
                      refine ev_goto (tgt := 26) dX7_text_98 (by decide) ?_
                      refine ev_iload_n dX7_text_26 rfl rfl ?_
                      refine ev_iconst (v := 3) dX7_text_27 (by decide) ?_
                      refine ev_icmp_ge (tgt := 101) dX7_text_28 (by decide) (fun _ => ?_) (fun c => absurd (by decide) c)
                      refine ev_iload_n dX7_text_101 rfl rfl ?_
                      refine ev_if_eq (tgt := 122) dX7_text_102 (by decide) (fun _ => ?_) (fun c => absurd (by decide) c)
                      refine ev_aload_n dX7_text_122 rfl rfl ?_
                      refine ev_getR (b := 76) dX7_text_123 fl_X7_40 (ly_k hI16.ly 65 rfl) (ly_r hI16.ly 39 rfl) ?_
                      refine ev_iconst (v := 4) dX7_text_126 (by decide) ?_
                      refine ev_aload_n dX7_text_127 rfl rfl ?_
                      refine ev_getI (v := nI (s_nt A)) dX7_text_128 fl_X7_97 (ly_k hI16.ly 65 rfl) ((hI16.rd 65 14 rfl).trans ((cd_x (by decide)).trans ((tx_Bx (by omega)).trans (wt_nt hA)))) ?_
                      refine ev_imul (v := nI (4 * (s_nt A))) dX7_text_131 (pk_mul 4 (s_nt A)) ?_
                      refine ev_iconst (v := 3) dX7_text_132 (by decide) ?_
                      refine ev_iadd (v := nI (4 * (s_nt A) + 3)) dX7_text_133 (nI_add (4 * (s_nt A)) 3) ?_
                      refine ev_aload_n dX7_text_134 rfl rfl ?_
                      refine ev_getI (v := nI l16.length) dX7_text_135 fl_X7_123 (ly_k hI16.ly 65 rfl) h3516 ?_
                      refine ev_iast dX7_text_138 (ly_k hI16.ly 76 rfl) (am_ixn (by omega) (by decide)) ?_
                      refine ev_aload_n dX7_text_139 rfl rfl ?_
                      refine ev_iconst (v := 0) dX7_text_140 (by decide) ?_
                      refine ev_putI dX7_text_141 fl_X7_79 rfl rfl (ly_k (iv_M.up hI16).ly 65 rfl) ?_
                      refine ev_iload_n dX7_text_144 rfl rfl ?_
                      refine ev_if_ne (tgt := 156) dX7_text_145 (by decide) (fun c => absurd (by decide) c) (fun _ => ?_)
                      refine ev_bipush (v := (-100)) dX7_text_148 (by decide) ?_
                      refine ev_aload_n dX7_text_150 rfl rfl ?_
                      refine ev_getI (v := nI R16.2.1) dX7_text_151 fl_X7_110 (ly_k (iv_M.up (iv_M.up hI16)).ly 65 rfl) (am_ru (by omega) (am_ru (by omega) ht16.2.1)) ?_
                      refine ev_isub (v := (-100) - (nI R16.2.1)) dX7_text_154 rfl ?_
                      refine ev_reti dX7_text_155 rfl (Nat.zero_le _) (Nat.zero_le _) ?_
                      have hf := tx_3F hy hp2
                      obtain ⟨d1, d2⟩ := tx_ED (B := (am_up (cd_S (tx_B A [(qcs0 ++ qcs1).length, qcs0.length, 0]) l16) 76 (4 * (s_nt A) + 3) (nI l16.length))) hA (tx_E1 tx_E0)
                      exact ⟨_, _, Or.inr ⟨hnt, d1, Or.inl ⟨hf.1, by rw [hf.2], d2⟩⟩, rfl, (iv_M.up (iv_M.up hI16)), (fr_M.wr (by decide) (fr_M.wr (by decide) ((fr_M.wr (by decide) (((fr_M.wr (by decide) (((fr_M.wr (by decide) ((fr_M.wr (by decide) (fr_M.wr (by decide) fr_M.rf)).tr hF2.M)).tr hF6).tr hF7.M)).tr hF11).tr hF12.M)).tr hF16)))⟩
              | false =>
                have hp1 := tx_t0 (nx := tx_n A) h160 hX hkey ka7 hcv
                rw [hT7] at hp1
                refine ev_if_eq (tgt := 93) dX7_text_86 (by decide) (fun _ => ?_) (fun c => absurd (show (0 : Int32) = 0 from rfl) c)
                refine ev_iconst (v := 0) dX7_text_93 (by decide) ?_
                refine ev_istore_n (lv' := [(0, .ref 65), (1, .int 0), (2, .int 1)]) dX7_text_94 rfl (by decide) rfl ?_
                refine ev_iinc (lv' := [(0, .ref 65), (1, .int 0), (2, .int 2)]) (v := 2) dX7_text_95 rfl (by decide) (by decide) rfl ?_
                refine ev_goto (tgt := 26) dX7_text_98 (by decide) ?_
                refine ev_iload_n dX7_text_26 rfl rfl ?_
                refine ev_iconst (v := 3) dX7_text_27 (by decide) ?_
                refine ev_icmp_ge (tgt := 101) dX7_text_28 (by decide) (fun c => absurd c (by decide)) (fun _ => ?_)
                refine ev_iload_n dX7_text_31 rfl rfl ?_
                refine ev_if_eq (tgt := 101) dX7_text_32 (by decide) (fun _ => ?_) (fun c => absurd (by decide) c)
                refine ev_iload_n dX7_text_101 rfl rfl ?_
                refine ev_if_eq (tgt := 122) dX7_text_102 (by decide) (fun _ => ?_) (fun c => absurd (by decide) c)
                refine ev_aload_n dX7_text_122 rfl rfl ?_
                refine ev_getR (b := 76) dX7_text_123 fl_X7_40 (ly_k hI11.ly 65 rfl) (ly_r hI11.ly 39 rfl) ?_
                refine ev_iconst (v := 4) dX7_text_126 (by decide) ?_
                refine ev_aload_n dX7_text_127 rfl rfl ?_
                refine ev_getI (v := nI (s_nt A)) dX7_text_128 fl_X7_97 (ly_k hI11.ly 65 rfl) ((hI11.rd 65 14 rfl).trans ((cd_x (by decide)).trans ((tx_Bx (by omega)).trans (wt_nt hA)))) ?_
                refine ev_imul (v := nI (4 * (s_nt A))) dX7_text_131 (pk_mul 4 (s_nt A)) ?_
                refine ev_iconst (v := 3) dX7_text_132 (by decide) ?_
                refine ev_iadd (v := nI (4 * (s_nt A) + 3)) dX7_text_133 (nI_add (4 * (s_nt A)) 3) ?_
                refine ev_aload_n dX7_text_134 rfl rfl ?_
                refine ev_getI (v := nI l11.length) dX7_text_135 fl_X7_123 (ly_k hI11.ly 65 rfl) h3511 ?_
                refine ev_iast dX7_text_138 (ly_k hI11.ly 76 rfl) (am_ixn (by omega) (by decide)) ?_
                refine ev_aload_n dX7_text_139 rfl rfl ?_
                refine ev_iconst (v := 0) dX7_text_140 (by decide) ?_
                refine ev_putI dX7_text_141 fl_X7_79 rfl rfl (ly_k (iv_M.up hI11).ly 65 rfl) ?_
                refine ev_iload_n dX7_text_144 rfl rfl ?_
                refine ev_if_ne (tgt := 156) dX7_text_145 (by decide) (fun c => absurd (by decide) c) (fun _ => ?_)
                refine ev_bipush (v := (-100)) dX7_text_148 (by decide) ?_
                refine ev_aload_n dX7_text_150 rfl rfl ?_
                refine ev_getI (v := nI R11.2.1) dX7_text_151 fl_X7_110 (ly_k (iv_M.up (iv_M.up hI11)).ly 65 rfl) (am_ru (by omega) (am_ru (by omega) ht11.2.1)) ?_
                refine ev_isub (v := (-100) - (nI R11.2.1)) dX7_text_154 rfl ?_
                refine ev_reti dX7_text_155 rfl (Nat.zero_le _) (Nat.zero_le _) ?_
                have hf := tx_2F hx hp1
                obtain ⟨d1, d2⟩ := tx_ED (B := (am_up (cd_S (tx_B A [qcs0.length, 0]) l11) 76 (4 * (s_nt A) + 3) (nI l11.length))) hA (tx_E1 tx_E0)
                exact ⟨_, _, Or.inr ⟨hnt, d1, Or.inl ⟨hf.1, by rw [hf.2], d2⟩⟩, rfl, (iv_M.up (iv_M.up hI11)), (fr_M.wr (by decide) (fr_M.wr (by decide) ((fr_M.wr (by decide) (((fr_M.wr (by decide) ((fr_M.wr (by decide) (fr_M.wr (by decide) fr_M.rf)).tr hF2.M)).tr hF6).tr hF7.M)).tr hF11)))⟩
        | false =>
          have hp0 := tx_t0 (nx := tx_n A) h160 hX hkey ka2 hcv
          rw [hT2] at hp0
          refine ev_if_eq (tgt := 93) dX7_text_86 (by decide) (fun _ => ?_) (fun c => absurd (show (0 : Int32) = 0 from rfl) c)
          refine ev_iconst (v := 0) dX7_text_93 (by decide) ?_
          refine ev_istore_n (lv' := [(0, .ref 65), (1, .int 0), (2, .int 0)]) dX7_text_94 rfl (by decide) rfl ?_
          refine ev_iinc (lv' := [(0, .ref 65), (1, .int 0), (2, .int 1)]) (v := 1) dX7_text_95 rfl (by decide) (by decide) rfl ?_
          refine ev_goto (tgt := 26) dX7_text_98 (by decide) ?_
          refine ev_iload_n dX7_text_26 rfl rfl ?_
          refine ev_iconst (v := 3) dX7_text_27 (by decide) ?_
          refine ev_icmp_ge (tgt := 101) dX7_text_28 (by decide) (fun c => absurd c (by decide)) (fun _ => ?_)
          refine ev_iload_n dX7_text_31 rfl rfl ?_
          refine ev_if_eq (tgt := 101) dX7_text_32 (by decide) (fun _ => ?_) (fun c => absurd (by decide) c)
          refine ev_iload_n dX7_text_101 rfl rfl ?_
          refine ev_if_eq (tgt := 122) dX7_text_102 (by decide) (fun _ => ?_) (fun c => absurd (by decide) c)
          refine ev_aload_n dX7_text_122 rfl rfl ?_
          refine ev_getR (b := 76) dX7_text_123 fl_X7_40 (ly_k hI6.ly 65 rfl) (ly_r hI6.ly 39 rfl) ?_
          refine ev_iconst (v := 4) dX7_text_126 (by decide) ?_
          refine ev_aload_n dX7_text_127 rfl rfl ?_
          refine ev_getI (v := nI (s_nt A)) dX7_text_128 fl_X7_97 (ly_k hI6.ly 65 rfl) ((hI6.rd 65 14 rfl).trans ((cd_x (by decide)).trans ((tx_Bx (by omega)).trans (wt_nt hA)))) ?_
          refine ev_imul (v := nI (4 * (s_nt A))) dX7_text_131 (pk_mul 4 (s_nt A)) ?_
          refine ev_iconst (v := 3) dX7_text_132 (by decide) ?_
          refine ev_iadd (v := nI (4 * (s_nt A) + 3)) dX7_text_133 (nI_add (4 * (s_nt A)) 3) ?_
          refine ev_aload_n dX7_text_134 rfl rfl ?_
          refine ev_getI (v := nI l6.length) dX7_text_135 fl_X7_123 (ly_k hI6.ly 65 rfl) h356 ?_
          refine ev_iast dX7_text_138 (ly_k hI6.ly 76 rfl) (am_ixn (by omega) (by decide)) ?_
          refine ev_aload_n dX7_text_139 rfl rfl ?_
          refine ev_iconst (v := 0) dX7_text_140 (by decide) ?_
          refine ev_putI dX7_text_141 fl_X7_79 rfl rfl (ly_k (iv_M.up hI6).ly 65 rfl) ?_
          refine ev_iload_n dX7_text_144 rfl rfl ?_
          refine ev_if_ne (tgt := 156) dX7_text_145 (by decide) (fun c => absurd (by decide) c) (fun _ => ?_)
          refine ev_bipush (v := (-100)) dX7_text_148 (by decide) ?_
          refine ev_aload_n dX7_text_150 rfl rfl ?_
          refine ev_getI (v := nI R6.2.1) dX7_text_151 fl_X7_110 (ly_k (iv_M.up (iv_M.up hI6)).ly 65 rfl) (am_ru (by omega) (am_ru (by omega) ht6.2.1)) ?_
          refine ev_isub (v := (-100) - (nI R6.2.1)) dX7_text_154 rfl ?_
          refine ev_reti dX7_text_155 rfl (Nat.zero_le _) (Nat.zero_le _) ?_
          have hf := tx_1F hp0
          obtain ⟨d1, d2⟩ := tx_ED (B := (am_up (cd_S (tx_B A [0]) l6) 76 (4 * (s_nt A) + 3) (nI l6.length))) hA (tx_E1 tx_E0)
          exact ⟨_, _, Or.inr ⟨hnt, d1, Or.inl ⟨hf.1, by rw [hf.2], d2⟩⟩, rfl, (iv_M.up (iv_M.up hI6)), (fr_M.wr (by decide) (fr_M.wr (by decide) ((fr_M.wr (by decide) ((fr_M.wr (by decide) (fr_M.wr (by decide) fr_M.rf)).tr hF2.M)).tr hF6)))⟩
  · skip
    have c1n : (s_nt A) = 6 := (nI_eq (a := (s_nt A)) (b := 6) (by omega) (by omega)).mp c1
    refine ev_bipush (v := (-4)) dX7_text_9 (by decide) ?_
    refine ev_reti dX7_text_11 rfl (Nat.zero_le _) (Nat.zero_le _) ?_
    exact ⟨A, -4, Or.inl ⟨by omega, rfl, rfl⟩, rfl, hI, fr_M.rf⟩

