/-! the reference: what is held and put -/
def oc (H : List Int32) : Nat := match H with
  | [] => 0
  | c :: H => oc H + (if c = 0 ∨ c = 13 ∨ c = 19 then 1 else 0)
def am_qH (A : am_S) (H : List Int32) (o : Nat) (l : List Int32) (σ0 : am_M) : Option Value → am_M → Prop := fun r σ' => r = none ∧ iv_M (cd_S A l) σ' ∧ hs_R σ' H o l ∧ fr_P σ0 σ' 
set_option maxHeartbeats 400000 in
set_option maxRecDepth 100000 in
theorem c_X7_puts (G : am_G) (D : Nat) (A : am_S) (σ : am_M) (H l : List Int32) (o : Nat) (hA : wf_T A) (hI : iv_M (cd_S A l) σ) (hs : hs_R σ H o l) (hnt : s_nt A < 6) (hln : H.length + l.length < 199) (v : Int32) : am_Mt G D mX7_puts [.ref 65, .int v] σ 0 0 (am_qH A H o (l ++ [v]) σ) := by
  have b6 := wt_6 hA
  have b160 := wt_160 hA
  refine am_of moX7_puts (Nat.le_of_ble_eq_true rfl) ?_
  show am_Ev G mX7_puts (am_R D 0 0) 0 0 (am_qH A H o (l ++ [v]) σ) 0 [(0, .ref 65), (1, .int v)] [] σ 0 0
  refine ev_aload_n dX7_puts_0 rfl rfl ?_
  refine ev_getR (b := 75) dX7_puts_1 fl_X7_37 (ly_k hI.ly 65 rfl) (ly_r hI.ly 38 rfl) ?_
  refine ev_sipush (v := 200) dX7_puts_4 (by decide) ?_
  refine ev_aload_n dX7_puts_7 rfl rfl ?_
  refine ev_getI (v := nI (s_nt A)) dX7_puts_8 fl_X7_97 (ly_k hI.ly 65 rfl) ((hI.rd 65 14 rfl).trans ((cd_x (by decide)).trans (wt_nt hA))) ?_
  refine ev_imul (v := nI (200 * (s_nt A))) dX7_puts_11 (pk_mul 200 (s_nt A)) ?_
  refine ev_aload_n dX7_puts_12 rfl rfl ?_
  refine ev_getI (v := nI l.length) dX7_puts_13 fl_X7_123 (ly_k hI.ly 65 rfl) hs.2.2.2 ?_
  refine ev_iadd (v := nI (200 * (s_nt A) + l.length)) dX7_puts_16 (nI_add (200 * (s_nt A)) l.length) ?_
  refine ev_iload_n dX7_puts_17 rfl rfl ?_
  refine ev_iast dX7_puts_18 (ly_k hI.ly 75 rfl) (am_ixn (by omega) (by decide)) ?_
  refine ev_aload_n dX7_puts_19 rfl rfl ?_
  refine ev_dup dX7_puts_20 rfl ?_
  refine ev_getI (v := nI l.length) dX7_puts_21 fl_X7_123 (ly_k (iv_M.up hI).ly 65 rfl) (am_ru (by omega) hs.2.2.2) ?_
  refine ev_iconst (v := 1) dX7_puts_24 (by decide) ?_
  refine ev_iadd (v := nI (l.length + 1)) dX7_puts_25 (nI_1 _) ?_
  refine ev_putI dX7_puts_26 fl_X7_123 rfl rfl (ly_k (iv_M.up hI).ly 65 rfl) ?_
  refine ev_retv dX7_puts_29 rfl (Nat.zero_le _) (Nat.zero_le _) ?_
  refine ⟨rfl, iv_M.cg (iv_M.sc rfl (iv_M.up hI)) (fun _ _ _ => by rw [cd_add]), ⟨(am_ru (by omega) (am_ru (by omega) hs.1)), hd_cg (fun k _ => am_ru (by omega) (am_ru (by omega) rfl)) hs.2.1, (am_ru (by omega) (am_ru (by omega) hs.2.2.1)), ?_⟩, (fr_P.wr (by simp) (fr_P.wr (by simp) fr_P.rf))⟩
  rw [List.length_append, List.length_singleton]
  exact am_rs

set_option maxHeartbeats 400000 in
set_option maxRecDepth 100000 in
theorem c_X7_holds (G : am_G) (D : Nat) (A : am_S) (σ : am_M) (H l : List Int32) (o : Nat) (hA : wf_T A) (hI : iv_M (cd_S A l) σ) (hs : hs_R σ H o l) (hnt : s_nt A < 6) (hln : H.length + l.length < 199) (c : Int32) : am_Mt G D mX7_holds [.ref 65, .int c] σ 0 0 (am_qH A (c :: H) o l σ) := by
  have b6 := wt_6 hA
  have b160 := wt_160 hA
  refine am_of moX7_holds (Nat.le_of_ble_eq_true rfl) ?_
  show am_Ev G mX7_holds (am_R D 0 0) 0 0 (am_qH A (c :: H) o l σ) 0 [(0, .ref 65), (1, .int c)] [] σ 0 0
  refine ev_aload_n dX7_holds_0 rfl rfl ?_
  refine ev_getR (b := 85) dX7_holds_1 fl_X7_67 (ly_k hI.ly 65 rfl) (ly_r hI.ly 48 rfl) ?_
  refine ev_aload_n dX7_holds_4 rfl rfl ?_
  refine ev_getI (v := nI H.length) dX7_holds_5 fl_X7_126 (ly_k hI.ly 65 rfl) hs.1 ?_
  refine ev_iload_n dX7_holds_8 rfl rfl ?_
  refine ev_iast dX7_holds_9 (ly_k hI.ly 85 rfl) (am_ixn (by omega) (by decide)) ?_
  refine ev_aload_n dX7_holds_10 rfl rfl ?_
  refine ev_dup dX7_holds_11 rfl ?_
  refine ev_getI (v := nI H.length) dX7_holds_12 fl_X7_126 (ly_k (iv_M.sc rfl hI).ly 65 rfl) (am_ru (by omega) hs.1) ?_
  refine ev_iconst (v := 1) dX7_holds_15 (by decide) ?_
  refine ev_iadd (v := nI (H.length + 1)) dX7_holds_16 (nI_1 _) ?_
  refine ev_putI dX7_holds_17 fl_X7_126 rfl rfl (ly_k (iv_M.sc rfl hI).ly 65 rfl) ?_
  refine ev_retv dX7_holds_20 rfl (Nat.zero_le _) (Nat.zero_le _) ?_
  exact ⟨rfl, (iv_M.sc rfl (iv_M.sc rfl hI)), ⟨am_rs, ⟨am_ru (by omega) am_rs, hd_cg (fun k hk => am_ru (by omega) (am_ru (by omega) rfl)) hs.2.1⟩, (am_ru (by omega) (am_ru (by omega) hs.2.2.1)), (am_ru (by omega) (am_ru (by omega) hs.2.2.2))⟩, (fr_P.wr (by simp) (fr_P.wr (by simp) fr_P.rf))⟩

def am_qO (A : am_S) (c : Int32) (H : List Int32) (o : Nat) (l : List Int32) (σ0 : am_M) : Option Value → am_M → Prop := fun r σ' => (o < 5 ∧ r = some (.int 1) ∧ iv_M (cd_S A l) σ' ∧ hs_R σ' (c :: H) (o + 1) l ∧ fr_P σ0 σ') ∨ (¬ o < 5 ∧ r = some (.int 0) ∧ iv_M (cd_S A l) σ' ∧ hs_R σ' H o l ∧ fr_P σ0 σ')
set_option maxHeartbeats 400000 in
set_option maxRecDepth 100000 in
theorem c_X7_opensOne (G : am_G) (D : Nat) (A : am_S) (σ : am_M) (H l : List Int32) (o : Nat) (hA : wf_T A) (hI : iv_M (cd_S A l) σ) (hs : hs_R σ H o l) (hnt : s_nt A < 6) (hln : H.length + l.length < 199) (ho5 : o ≤ 5) (c : Int32) : am_Mt G (D + 1) mX7_opensOne [.ref 65, .int c] σ 0 0 (am_qO A c H o l σ) := by
  have b6 := wt_6 hA
  have b160 := wt_160 hA
  refine am_of moX7_opensOne (Nat.le_of_ble_eq_true rfl) ?_
  show am_Ev G mX7_opensOne (am_R (D + 1) 0 0) 0 0 (am_qO A c H o l σ) 0 [(0, .ref 65), (1, .int c)] [] σ 0 0
  refine ev_aload_n dX7_opensOne_0 rfl rfl ?_
  refine ev_getI (v := nI o) dX7_opensOne_1 fl_X7_133 (ly_k hI.ly 65 rfl) hs.2.2.1 ?_
  refine ev_iconst (v := 5) dX7_opensOne_4 (by decide) ?_
  refine ev_icmp_ne (tgt := 10) dX7_opensOne_5 (by decide) (fun c1 => ?_) (fun c1 => ?_)
  · skip
    have c1n : ¬ o = 5 := fun zz => c1 ((nI_eq (a := o) (b := 5) (by omega) (by omega)).mpr zz)
    refine ev_aload_n dX7_opensOne_10 rfl rfl ?_
    refine ev_dup dX7_opensOne_11 rfl ?_
    refine ev_getI (v := nI o) dX7_opensOne_12 fl_X7_133 (ly_k hI.ly 65 rfl) hs.2.2.1 ?_
    refine ev_iconst (v := 1) dX7_opensOne_15 (by decide) ?_
    refine ev_iadd (v := nI (o + 1)) dX7_opensOne_16 (nI_1 _) ?_
    refine ev_putI dX7_opensOne_17 fl_X7_133 rfl rfl (ly_k hI.ly 65 rfl) ?_
    refine ev_aload_n dX7_opensOne_20 rfl rfl ?_
    refine ev_iload_n dX7_opensOne_21 rfl rfl ?_
    have hsb2 : hs_R (am_sI σ 65 34 (nI (o + 1))) H (o + 1) l := ⟨(am_ru (by omega) hs.1), hd_cg (fun k _ => am_ru (by omega) rfl) hs.2.1, am_rs, (am_ru (by omega) hs.2.2.2)⟩
    refine ev_callV (as := [.int c]) (st := []) dX7_opensOne_22 mfX7_holds lk_X7_140 (ly_k (iv_M.sc rfl hI).ly 65 rfl) (by decide) rfl (c_X7_holds G D A (am_sI σ 65 34 (nI (o + 1))) H l (o + 1) hA (iv_M.sc rfl hI) hsb2 hnt (by omega) c) rfl rfl (Nat.le_of_ble_eq_true rfl) (am_hR (by omega) (by decide)) ⟨Nat.le_refl _, Nat.le_refl _⟩ ?_
    rintro _ σ2 ⟨rfl, hI2, hs2, hF2⟩
    refine ev_iconst (v := 1) dX7_opensOne_25 (by decide) ?_
    refine ev_retz dX7_opensOne_26 rfl (Or.inr rfl) (Nat.zero_le _) (Nat.zero_le _) ?_
    exact Or.inl ⟨by omega, rfl, hI2, hs2, (fr_P.tr (fr_P.wr (by simp) fr_P.rf) hF2)⟩
  · skip
    have c1n : o = 5 := (nI_eq (a := o) (b := 5) (by omega) (by omega)).mp c1
    refine ev_iconst (v := 0) dX7_opensOne_8 (by decide) ?_
    refine ev_retz dX7_opensOne_9 rfl (Or.inl rfl) (Nat.zero_le _) (Nat.zero_le _) ?_
    exact Or.inr ⟨by omega, rfl, hI, hs, fr_P.rf⟩

