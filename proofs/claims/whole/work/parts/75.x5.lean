/-! the class: reckon, and what stands on it -/
theorem cb_X.z {A : am_S} {σ : am_M} {a k : Nat} {v : Int32} (ha : ¬ (54 ≤ a ∧ a < 58)) (h : cb_X A σ) : cb_X A (am_sI σ a k v) := h.cg fun b h1 h2 => funext fun _ => am_ua (by omega)
theorem cr_X.z {A : am_S} {σ : am_M} {a k : Nat} {v : Int32} (ha : a ≠ 59) (h : cr_X A σ) : cr_X A (am_sI σ a k v) := fun t ht => (am_ua (by omega)).trans (h t ht)
theorem cr_X.cg {A : am_S} {σ τ : am_M} (h : cr_X A σ) (e : τ.2.1 59 = σ.2.1 59) : cr_X A τ := fun t ht => (congrFun e t).trans (h t ht)
theorem s_sw2 {A : am_S} {a b : Nat} (hab : a ≠ b) : s_sw (s_sw A a b) a b = A := by
  funext x y
  unfold s_sw am_up
  by_cases hx : x = 69
  · subst hx
    by_cases h1 : y = b
    · subst h1
      simp [hab]
    · by_cases h2 : y = a
      · subst h2; simp [hab]
      · simp [h1, h2]
  · simp [hx]
theorem s_swE {A : am_S} {a b : Nat} : s_eq A (s_sw A a b) := by
  unfold s_sw
  have h1 : s_eq (am_up A 69 a (A 69 b)) A := s_eq69
  have h2 : s_eq (am_up (am_up A 69 a (A 69 b)) 69 b (A 69 a)) (am_up A 69 a (A 69 b)) := s_eq69
  obtain ⟨a1, a2, a3, a4, a5, a6, a7, a8, a9, b1, b2⟩ := h1
  obtain ⟨c1, c2, c3, c4, c5, c6, c7, c8, c9, d1, d2⟩ := h2
  exact s_eq.sy ⟨c1.trans a1, c2.trans a2, c3.trans a3, c4.trans a4, c5.trans a5, c6.trans a6, c7.trans a7, c8.trans a8, c9.trans a9, d1.trans b1, d2.trans b2⟩
theorem s_scFm {A : am_S} {T m : Nat} {j : Int32} : s_wo A (fun q => (mk_m (s_rt A (s_se A T)) (s_nq A) &&& m).testBit q) j (s_nq A) = s_sc A (s_se A T) j (fun q => m.testBit q) := by
  unfold s_sc
  refine s_wo_cg fun q hq => ?_
  rw [Nat.testBit_and, mk_tb]
  simp [hq, Bool.and_comm]
theorem s_ap255 {A : am_S} (h8 : s_nq A ≤ 8) : s_ap A (fun q => (255 : Nat).testBit q) = s_ap A (fun _ => true) := by
  have e : ∀ t, s_scF A t (fun q => (255 : Nat).testBit q) = s_scF A t (fun _ => true) := by
    intro t
    unfold s_scF s_sc
    refine s_wo_cg fun q hq => ?_
    have : (255 : Nat).testBit q = true := by
      have e2 : (255 : Nat) = 2 ^ 8 - 1 := by decide
      rw [e2, Nat.testBit_two_pow_sub_one]
      exact decide_eq_true (by omega)
    show ((255 : Nat).testBit q && s_rt A (s_se A t) q) = (true && s_rt A (s_se A t) q)
    rw [this]
  unfold s_ap
  rw [e, e, e]
def am_qR1 (A : am_S) (v : Value) (σ0 : am_M) : Option Value → am_M → Prop := fun r σ' => r = some v ∧ iv_X A σ' ∧ fr_C σ0 σ' ∧ cb_X A σ' ∧ cr_X A σ' 
set_option maxHeartbeats 400000 in
set_option maxRecDepth 100000 in
theorem c_X6_findRights (G : am_G) (D : Nat) (A : am_S) (σ : am_M) (hA : wf_A A) (hX : iv_X A σ) (hc : cb_X A σ) : am_Mt G (D + 2) mX6_findRights [.ref 32] σ 0 0 (am_qR0 A (fun τ => cb_X A τ ∧ cr_X A τ) σ) := by
  have b7 := wf_np7 hA
  have b8 := wf_nq8 hA
  have b6 := wf_nt6 hA
  have b61 := wf_nt1 hA
  have b160 := wf_tp160 hA
  have brl := wf_rlt hA
  refine am_of moX6_findRights (Nat.le_of_ble_eq_true rfl) ?_
  show am_Ev G mX6_findRights (am_R (D + 2) 0 0) 0 0 (am_qR0 A (fun τ => cb_X A τ ∧ cr_X A τ) σ) 0 [(0, .ref 32)] [] σ 0 0
  refine ev_iconst (v := 0) dX6_findRights_0 (by decide) ?_
  refine ev_istore_n (lv' := [(0, .ref 32), (1, .int 0)]) dX6_findRights_1 rfl (by decide) rfl ?_
  refine ev_iload_n dX6_findRights_2 rfl rfl ?_
  refine ev_iconst (v := 3) dX6_findRights_3 (by decide) ?_
  refine ev_icmp_ge (tgt := 31) dX6_findRights_4 (by decide) (fun c => absurd c (by decide)) (fun _ => ?_)
  refine ev_aload_n dX6_findRights_7 rfl rfl ?_
  refine ev_getR (b := 59) dX6_findRights_8 fl_X6_59 (ly_k hX.ly 32 rfl) (ly_r hX.ly 9 rfl) ?_
  refine ev_iload_n dX6_findRights_11 rfl rfl ?_
  refine ev_aload_n dX6_findRights_12 rfl rfl ?_
  refine ev_getR (b := 54) dX6_findRights_13 fl_X6_55 (ly_k hX.ly 32 rfl) (ly_r hX.ly 8 rfl) ?_
  refine ev_aload_n dX6_findRights_16 rfl rfl ?_
  refine ev_iload_n dX6_findRights_17 rfl rfl ?_
  refine ev_callV (as := [.int 0]) (st := [.ref 54, .int 0, .ref 59]) dX6_findRights_18 mfX6_seatedAt lk_X6_167 (ly_k hX.ly 32 rfl) (by decide) rfl (c_X6_seatedAt G D A σ hA hX 0) rfl rfl (Nat.le_of_ble_eq_true rfl) (am_hR (by omega) (by decide)) ⟨Nat.le_refl _, Nat.le_refl _⟩ ?_
  rintro _ _ ⟨rfl, rfl⟩
  refine ev_callV (as := [.int (nI (mk_m (s_se A 0) (s_np A)))]) (st := [.int 0, .ref 59]) dX6_findRights_21 mfX0_rightOf lk_X6_314 (ly_k hX.ly 54 rfl) (by decide) rfl (c_X0_rightOf G D A σ hA hX (mk_m (s_se A 0) (s_np A)) mk_np hc) rfl rfl (Nat.le_of_ble_eq_true rfl) (am_hR (by omega) (by decide)) ⟨Nat.le_refl _, Nat.le_refl _⟩ ?_
  rintro _ _ ⟨rfl, rfl⟩
  refine ev_iast dX6_findRights_24 (ly_k hX.ly 59 rfl) (am_ixn (j := 0) (by decide) (by decide)) ?_
  refine ev_iinc (lv' := [(0, .ref 32), (1, .int 1)]) (v := 1) dX6_findRights_25 rfl (by decide) (by decide) rfl ?_
  refine ev_goto (tgt := 2) dX6_findRights_28 (by decide) ?_
  refine ev_iload_n dX6_findRights_2 rfl rfl ?_
  refine ev_iconst (v := 3) dX6_findRights_3 (by decide) ?_
  refine ev_icmp_ge (tgt := 31) dX6_findRights_4 (by decide) (fun c => absurd c (by decide)) (fun _ => ?_)
  refine ev_aload_n dX6_findRights_7 rfl rfl ?_
  refine ev_getR (b := 59) dX6_findRights_8 fl_X6_59 (ly_k (hX.sc (by omega)).ly 32 rfl) (ly_r (hX.sc (by omega)).ly 9 rfl) ?_
  refine ev_iload_n dX6_findRights_11 rfl rfl ?_
  refine ev_aload_n dX6_findRights_12 rfl rfl ?_
  refine ev_getR (b := 54) dX6_findRights_13 fl_X6_55 (ly_k (hX.sc (by omega)).ly 32 rfl) (ly_r (hX.sc (by omega)).ly 8 rfl) ?_
  refine ev_aload_n dX6_findRights_16 rfl rfl ?_
  refine ev_iload_n dX6_findRights_17 rfl rfl ?_
  refine ev_callV (as := [.int 1]) (st := [.ref 54, .int 1, .ref 59]) dX6_findRights_18 mfX6_seatedAt lk_X6_167 (ly_k (hX.sc (by omega)).ly 32 rfl) (by decide) rfl (c_X6_seatedAt G D A (am_sI σ 59 0 (nI (mk_m (s_rt A (fun p => (mk_m (s_se A 0) (s_np A)).testBit p)) (s_nq A)))) hA (hX.sc (by omega)) 1) rfl rfl (Nat.le_of_ble_eq_true rfl) (am_hR (by omega) (by decide)) ⟨Nat.le_refl _, Nat.le_refl _⟩ ?_
  rintro _ _ ⟨rfl, rfl⟩
  refine ev_callV (as := [.int (nI (mk_m (s_se A 1) (s_np A)))]) (st := [.int 1, .ref 59]) dX6_findRights_21 mfX0_rightOf lk_X6_314 (ly_k (hX.sc (by omega)).ly 54 rfl) (by decide) rfl (c_X0_rightOf G D A (am_sI σ 59 0 (nI (mk_m (s_rt A (fun p => (mk_m (s_se A 0) (s_np A)).testBit p)) (s_nq A)))) hA (hX.sc (by omega)) (mk_m (s_se A 1) (s_np A)) mk_np (cb_X.z (by omega) hc)) rfl rfl (Nat.le_of_ble_eq_true rfl) (am_hR (by omega) (by decide)) ⟨Nat.le_refl _, Nat.le_refl _⟩ ?_
  rintro _ _ ⟨rfl, rfl⟩
  refine ev_iast dX6_findRights_24 (ly_k (hX.sc (by omega)).ly 59 rfl) (am_ixn (j := 1) (by decide) (by decide)) ?_
  refine ev_iinc (lv' := [(0, .ref 32), (1, .int 2)]) (v := 2) dX6_findRights_25 rfl (by decide) (by decide) rfl ?_
  refine ev_goto (tgt := 2) dX6_findRights_28 (by decide) ?_
  refine ev_iload_n dX6_findRights_2 rfl rfl ?_
  refine ev_iconst (v := 3) dX6_findRights_3 (by decide) ?_
  refine ev_icmp_ge (tgt := 31) dX6_findRights_4 (by decide) (fun c => absurd c (by decide)) (fun _ => ?_)
  refine ev_aload_n dX6_findRights_7 rfl rfl ?_
  refine ev_getR (b := 59) dX6_findRights_8 fl_X6_59 (ly_k ((hX.sc (by omega)).sc (by omega)).ly 32 rfl) (ly_r ((hX.sc (by omega)).sc (by omega)).ly 9 rfl) ?_
  refine ev_iload_n dX6_findRights_11 rfl rfl ?_
  refine ev_aload_n dX6_findRights_12 rfl rfl ?_
  refine ev_getR (b := 54) dX6_findRights_13 fl_X6_55 (ly_k ((hX.sc (by omega)).sc (by omega)).ly 32 rfl) (ly_r ((hX.sc (by omega)).sc (by omega)).ly 8 rfl) ?_
  refine ev_aload_n dX6_findRights_16 rfl rfl ?_
  refine ev_iload_n dX6_findRights_17 rfl rfl ?_
  refine ev_callV (as := [.int 2]) (st := [.ref 54, .int 2, .ref 59]) dX6_findRights_18 mfX6_seatedAt lk_X6_167 (ly_k ((hX.sc (by omega)).sc (by omega)).ly 32 rfl) (by decide) rfl (c_X6_seatedAt G D A (am_sI (am_sI σ 59 0 (nI (mk_m (s_rt A (fun p => (mk_m (s_se A 0) (s_np A)).testBit p)) (s_nq A)))) 59 1 (nI (mk_m (s_rt A (fun p => (mk_m (s_se A 1) (s_np A)).testBit p)) (s_nq A)))) hA ((hX.sc (by omega)).sc (by omega)) 2) rfl rfl (Nat.le_of_ble_eq_true rfl) (am_hR (by omega) (by decide)) ⟨Nat.le_refl _, Nat.le_refl _⟩ ?_
  rintro _ _ ⟨rfl, rfl⟩
  refine ev_callV (as := [.int (nI (mk_m (s_se A 2) (s_np A)))]) (st := [.int 2, .ref 59]) dX6_findRights_21 mfX0_rightOf lk_X6_314 (ly_k ((hX.sc (by omega)).sc (by omega)).ly 54 rfl) (by decide) rfl (c_X0_rightOf G D A (am_sI (am_sI σ 59 0 (nI (mk_m (s_rt A (fun p => (mk_m (s_se A 0) (s_np A)).testBit p)) (s_nq A)))) 59 1 (nI (mk_m (s_rt A (fun p => (mk_m (s_se A 1) (s_np A)).testBit p)) (s_nq A)))) hA ((hX.sc (by omega)).sc (by omega)) (mk_m (s_se A 2) (s_np A)) mk_np (cb_X.z (by omega) (cb_X.z (by omega) hc))) rfl rfl (Nat.le_of_ble_eq_true rfl) (am_hR (by omega) (by decide)) ⟨Nat.le_refl _, Nat.le_refl _⟩ ?_
  rintro _ _ ⟨rfl, rfl⟩
  refine ev_iast dX6_findRights_24 (ly_k ((hX.sc (by omega)).sc (by omega)).ly 59 rfl) (am_ixn (j := 2) (by decide) (by decide)) ?_
  refine ev_iinc (lv' := [(0, .ref 32), (1, .int 3)]) (v := 3) dX6_findRights_25 rfl (by decide) (by decide) rfl ?_
  refine ev_goto (tgt := 2) dX6_findRights_28 (by decide) ?_
  refine ev_iload_n dX6_findRights_2 rfl rfl ?_
  refine ev_iconst (v := 3) dX6_findRights_3 (by decide) ?_
  refine ev_icmp_ge (tgt := 31) dX6_findRights_4 (by decide) (fun _ => ?_) (fun c => absurd (by decide) c)
  refine ev_retv dX6_findRights_31 rfl (Nat.zero_le _) (Nat.zero_le _) ?_
  refine ⟨rfl, (((hX.sc (by omega)).sc (by omega)).sc (by omega)), (fr_C.wr (by omega) (fr_C.wr (by omega) (fr_C.wr (by omega) fr_C.rf))), (cb_X.z (by omega) (cb_X.z (by omega) (cb_X.z (by omega) hc))), fun t ht => ?_⟩
  rcases (show t = 0 ∨ t = 1 ∨ t = 2 by omega) with rfl | rfl | rfl
  · exact (am_ru (by omega) (am_ru (by omega) am_rs)).trans (congrArg nI s_rtMm)
  · exact (am_ru (by omega) am_rs).trans (congrArg nI s_rtMm)
  · exact am_rs.trans (congrArg nI s_rtMm)

set_option maxHeartbeats 400000 in
set_option maxRecDepth 100000 in
theorem c_X6_reckon (G : am_G) (D : Nat) (A : am_S) (σ : am_M) (hA : wf_A A) (hX : iv_X A σ)  : am_Mt G (D + 4) mX6_reckon [.ref 32] σ 0 0 (am_qR0 A (fun τ => cb_X A τ ∧ cr_X A τ) σ) := by
  have b7 := wf_np7 hA
  have b8 := wf_nq8 hA
  have b6 := wf_nt6 hA
  have b61 := wf_nt1 hA
  have b160 := wf_tp160 hA
  have brl := wf_rlt hA
  refine am_of moX6_reckon (Nat.le_of_ble_eq_true rfl) ?_
  show am_Ev G mX6_reckon (am_R (D + 4) 0 0) 0 0 (am_qR0 A (fun τ => cb_X A τ ∧ cr_X A τ) σ) 0 [(0, .ref 32)] [] σ 0 0
  obtain ⟨x, hx⟩ := hX.te brl
  have lp : ∀ (f : Nat) (p : Nat) (σ1 : am_M), (p ≤ 7) → (cp_X A (min p (s_np A)) σ1) → (iv_X A σ1) → (fr_C σ σ1) → 7 - p < f → am_Ev G mX6_reckon (am_R (D + 4) 0 0) 0 0 (am_qR0 A (fun τ => cb_X A τ ∧ cr_X A τ) σ) 25 [(0, .ref 32), (1, .int (nI p))] [] σ1 0 0 := by
    intro f
    induction f with
    | zero => intro p σ1 hp hz hX1 hF hf; exact absurd hf (Nat.not_lt_zero _)
    | succ f ih =>
      intro p σ1 hp hz hX1 hF hf
      have hx1 : σ1.2.2 37 (s_rl A) = some x := (congrFun (congrFun hF.2.1 37) _).trans hx
      refine ev_iload_n dX6_reckon_25 rfl rfl ?_
      refine ev_bipush (v := 7) dX6_reckon_26 (by decide) ?_
      refine ev_icmp_ge (tgt := 62) dX6_reckon_28 (by decide) (fun c1 => ?_) (fun c1 => ?_)
      · skip
        have c1n : 7 ≤ p := (nI_leI (a := 7) (b := p) (by omega) (by omega)).mp c1
        have hc : cb_X A σ1 := by rw [Nat.min_eq_right (by omega)] at hz; exact hz
        refine ev_aload_n dX6_reckon_62 rfl rfl ?_
        refine ev_callV (as := []) (st := []) dX6_reckon_63 mfX6_findRights lk_X6_311 (ly_k hX1.ly 32 rfl) (by decide) rfl (c_X6_findRights G (D + 1) A σ1 hA hX1 hc) rfl rfl (Nat.le_of_ble_eq_true rfl) (am_hR (by omega) (by decide)) ⟨Nat.le_refl _, Nat.le_refl _⟩ ?_
        rintro _ σ2 ⟨rfl, hX2, hF2, hc2, hr2⟩
        have hx_2 : σ2.2.2 37 (s_rl A) = some x := (congrFun (congrFun hF2.2.1 37) _).trans hx1
        refine ev_retv dX6_reckon_66 rfl (Nat.zero_le _) (Nat.zero_le _) ?_
        exact ⟨rfl, hX2, (fr_C.tr hF hF2), hc2, hr2⟩
      · skip
        have c1n : ¬ 7 ≤ p := fun zz => c1 ((nI_leI (a := 7) (b := p) (by omega) (by omega)).mpr zz)
        by_cases hpn : p < s_np A
        · skip
          obtain ⟨g, hg⟩ := hX1.ge hpn
          rw [Nat.min_eq_left (Nat.le_of_lt hpn)] at hz
          refine ev_aload_n dX6_reckon_31 rfl rfl ?_
          refine ev_getR (b := 54) dX6_reckon_32 fl_X6_55 (ly_k hX1.ly 32 rfl) (ly_r hX1.ly 8 rfl) ?_
          refine ev_aload_n dX6_reckon_35 rfl rfl ?_
          refine ev_callV (as := []) (st := [.ref 54]) dX6_reckon_36 mfX6_lawText lk_X6_108 (ly_k hX1.ly 32 rfl) (by decide) rfl (c_X6_lawText G (D + 3) A σ1 hA hX1 x hx1) rfl rfl (Nat.le_of_ble_eq_true rfl) (am_hR (by omega) (by decide)) ⟨Nat.le_refl _, Nat.le_refl _⟩ ?_
          rintro _ _ ⟨rfl, rfl⟩
          refine ev_iload_n dX6_reckon_39 rfl rfl ?_
          refine ev_aload_n dX6_reckon_40 rfl rfl ?_
          refine ev_iload_n dX6_reckon_41 rfl rfl ?_
          refine ev_callV (as := [.int (nI p)]) (st := [.int (nI p), .ref x, .ref 54]) dX6_reckon_42 mfX6_personAt lk_X6_128 (ly_k hX1.ly 32 rfl) (by decide) rfl (c_X6_personAtN G (D + 3) A σ1 hA hX1 p g hpn hg) rfl rfl (Nat.le_of_ble_eq_true rfl) (am_hR (by omega) (by decide)) ⟨Nat.le_refl _, Nat.le_refl _⟩ ?_
          rintro _ _ ⟨rfl, rfl⟩
          refine ev_aload_n dX6_reckon_45 rfl rfl ?_
          refine ev_getR (b := 34) dX6_reckon_46 fl_X6_15 (ly_k hX1.ly 32 rfl) (ly_r hX1.ly 1 rfl) ?_
          refine ev_aload_n dX6_reckon_49 rfl rfl ?_
          refine ev_getR (b := 35) dX6_reckon_50 fl_X6_19 (ly_k hX1.ly 32 rfl) (ly_r hX1.ly 2 rfl) ?_
          refine ev_callV (as := [.ref x, .int (nI p), .ref g, .ref 34, .ref 35]) (st := []) dX6_reckon_53 mfX0_reckonPerson lk_X6_307 (ly_k hX1.ly 54 rfl) (by decide) rfl (c_X0_reckonPerson G D A σ1 hA hX1 x hx1 p g hpn hg hz) rfl rfl (Nat.le_of_ble_eq_true rfl) (am_hR (by omega) (by decide)) ⟨Nat.le_refl _, Nat.le_refl _⟩ ?_
          rintro _ σ3 ⟨rfl, hX3, hF3, hp3⟩
          refine ev_iinc (lv' := [(0, .ref 32), (1, .int (nI (p + 1)))]) (v := nI (p + 1)) dX6_reckon_56 rfl (nI_1 _) (by decide) rfl ?_
          refine ev_goto (tgt := 25) dX6_reckon_59 (by decide) ?_
          exact ih (p + 1) σ3 (by omega) (by rw [Nat.min_eq_left (by omega)]; exact hp3) hX3 (fr_C.tr hF hF3) (by omega)
        · skip
          rw [Nat.min_eq_right (Nat.not_lt.mp hpn)] at hz
          refine ev_aload_n dX6_reckon_31 rfl rfl ?_
          refine ev_getR (b := 54) dX6_reckon_32 fl_X6_55 (ly_k hX1.ly 32 rfl) (ly_r hX1.ly 8 rfl) ?_
          refine ev_aload_n dX6_reckon_35 rfl rfl ?_
          refine ev_callV (as := []) (st := [.ref 54]) dX6_reckon_36 mfX6_lawText lk_X6_108 (ly_k hX1.ly 32 rfl) (by decide) rfl (c_X6_lawText G (D + 3) A σ1 hA hX1 x hx1) rfl rfl (Nat.le_of_ble_eq_true rfl) (am_hR (by omega) (by decide)) ⟨Nat.le_refl _, Nat.le_refl _⟩ ?_
          rintro _ _ ⟨rfl, rfl⟩
          refine ev_iload_n dX6_reckon_39 rfl rfl ?_
          refine ev_aload_n dX6_reckon_40 rfl rfl ?_
          refine ev_iload_n dX6_reckon_41 rfl rfl ?_
          refine ev_callV (as := [.int (nI p)]) (st := [.int (nI p), .ref x, .ref 54]) dX6_reckon_42 mfX6_personAt lk_X6_128 (ly_k hX1.ly 32 rfl) (by decide) rfl (c_X6_personAt G (D + 3) A σ1 hA hX1 (nI p)) rfl rfl (Nat.le_of_ble_eq_true rfl) (am_hR (by omega) (by decide)) ⟨Nat.le_refl _, Nat.le_refl _⟩ ?_
          rintro _ _ (⟨P, g, he, hP, -⟩ | ⟨-, rfl, rfl⟩)
          · skip
            exact absurd ((nI_eq (by omega) (by omega)).mp he) (by omega)
          · skip
            refine ev_aload_n dX6_reckon_45 rfl rfl ?_
            refine ev_getR (b := 34) dX6_reckon_46 fl_X6_15 (ly_k hX1.ly 32 rfl) (ly_r hX1.ly 1 rfl) ?_
            refine ev_aload_n dX6_reckon_49 rfl rfl ?_
            refine ev_getR (b := 35) dX6_reckon_50 fl_X6_19 (ly_k hX1.ly 32 rfl) (ly_r hX1.ly 2 rfl) ?_
            refine ev_callV (as := [.ref x, .int (nI p), .null, .ref 34, .ref 35]) (st := []) dX6_reckon_53 mfX0_reckonPerson lk_X6_307 (ly_k hX1.ly 54 rfl) (by decide) rfl (c_X0_reckonNobody G D A σ1 hA hX1 x hx1 p) rfl rfl (Nat.le_of_ble_eq_true rfl) (am_hR (by omega) (by decide)) ⟨Nat.le_refl _, Nat.le_refl _⟩ ?_
            rintro _ _ ⟨rfl, rfl⟩
            refine ev_iinc (lv' := [(0, .ref 32), (1, .int (nI (p + 1)))]) (v := nI (p + 1)) dX6_reckon_56 rfl (nI_1 _) (by decide) rfl ?_
            refine ev_goto (tgt := 25) dX6_reckon_59 (by decide) ?_
            exact ih (p + 1) σ1 (by omega) (by rw [Nat.min_eq_right (by omega)]; exact hz) hX1 hF (by omega)
  refine ev_aload_n dX6_reckon_0 rfl rfl ?_
  refine ev_getR (b := 54) dX6_reckon_1 fl_X6_55 (ly_k hX.ly 32 rfl) (ly_r hX.ly 8 rfl) ?_
  refine ev_aload_n dX6_reckon_4 rfl rfl ?_
  refine ev_callV (as := []) (st := [.ref 54]) dX6_reckon_5 mfX6_lawText lk_X6_108 (ly_k hX.ly 32 rfl) (by decide) rfl (c_X6_lawText G (D + 3) A σ hA hX x hx) rfl rfl (Nat.le_of_ble_eq_true rfl) (am_hR (by omega) (by decide)) ⟨Nat.le_refl _, Nat.le_refl _⟩ ?_
  rintro _ _ ⟨rfl, rfl⟩
  refine ev_aload_n dX6_reckon_8 rfl rfl ?_
  refine ev_getR (b := 34) dX6_reckon_9 fl_X6_15 (ly_k hX.ly 32 rfl) (ly_r hX.ly 1 rfl) ?_
  refine ev_aload_n dX6_reckon_12 rfl rfl ?_
  refine ev_getR (b := 35) dX6_reckon_13 fl_X6_19 (ly_k hX.ly 32 rfl) (ly_r hX.ly 2 rfl) ?_
  refine ev_aload_n dX6_reckon_16 rfl rfl ?_
  refine ev_getI (v := nI (s_nq A)) dX6_reckon_17 fl_X6_88 (ly_k hX.ly 32 rfl) (hX.f13.trans (wf_nq hA)) ?_
  refine ev_callV (as := [.ref x, .ref 34, .ref 35, .int (nI (s_nq A))]) (st := []) dX6_reckon_20 mfX0_reckonPoints lk_X6_303 (ly_k hX.ly 54 rfl) (by decide) rfl (c_X0_reckonPoints G D A σ hA hX x hx) rfl rfl (Nat.le_of_ble_eq_true rfl) (am_hR (by omega) (by decide)) ⟨Nat.le_refl _, Nat.le_refl _⟩ ?_
  rintro _ σ5 ⟨rfl, hX5, hF5, hp5⟩
  have hx_5 : σ5.2.2 37 (s_rl A) = some x := (congrFun (congrFun hF5.2.1 37) _).trans hx
  refine ev_iconst (v := 0) dX6_reckon_23 (by decide) ?_
  refine ev_istore_n (lv' := [(0, .ref 32), (1, .int 0)]) dX6_reckon_24 rfl (by decide) rfl ?_
  exact lp _ 0 σ5 (Nat.zero_le _) (by rw [Nat.min_eq_left (Nat.zero_le _)]; exact hp5) hX5 (fr_C.tr fr_C.rf hF5) (Nat.lt_succ_self _)

set_option maxHeartbeats 400000 in
set_option maxRecDepth 100000 in
theorem c_X6_scoreNow (G : am_G) (D : Nat) (A : am_S) (σ : am_M) (hA : wf_A A) (hX : iv_X A σ) (T : Nat) (hT : T < 3) (hc : cb_X A σ) (hr : cr_X A σ) : am_Mt G (D + 1) mX6_scoreNow [.ref 32, .int (nI T)] σ 0 0 (am_q (.int (s_now A T)) σ) := by
  have b7 := wf_np7 hA
  have b8 := wf_nq8 hA
  have b6 := wf_nt6 hA
  have b61 := wf_nt1 hA
  have b160 := wf_tp160 hA
  have brl := wf_rlt hA
  refine am_of moX6_scoreNow (Nat.le_of_ble_eq_true rfl) ?_
  show am_Ev G mX6_scoreNow (am_R (D + 1) 0 0) 0 0 (am_q (.int (s_now A T)) σ) 0 [(0, .ref 32), (1, .int (nI T))] [] σ 0 0
  refine ev_iload_n dX6_scoreNow_0 rfl rfl ?_
  refine ev_callS (as := [.int (nI T)]) (st := []) dX6_scoreNow_1 mfX6_isTable lk_X6_161 (c_X6_isTable G D σ (nI T)) rfl rfl (Nat.le_of_ble_eq_true rfl) (am_hR (by omega) (by decide)) ⟨Nat.le_refl _, Nat.le_refl _⟩ ?_
  rintro _ _ (⟨-, rfl, rfl⟩ | ⟨hn, rfl, rfl⟩)
  · skip
    refine ev_if_eq (tgt := 29) dX6_scoreNow_4 (by decide) (fun c => absurd c (by decide)) (fun _ => ?_)
    refine ev_aload_n dX6_scoreNow_7 rfl rfl ?_
    refine ev_getR (b := 54) dX6_scoreNow_8 fl_X6_55 (ly_k hX.ly 32 rfl) (ly_r hX.ly 8 rfl) ?_
    refine ev_aload_n dX6_scoreNow_11 rfl rfl ?_
    refine ev_getR (b := 59) dX6_scoreNow_12 fl_X6_59 (ly_k hX.ly 32 rfl) (ly_r hX.ly 9 rfl) ?_
    refine ev_iload_n dX6_scoreNow_15 rfl rfl ?_
    refine ev_iald (v := nI (mk_m (s_rt A (s_se A T)) (s_nq A))) dX6_scoreNow_16 (ly_k hX.ly 59 rfl) (am_ixn (by omega) (by decide)) (hr T (by omega)) ?_
    refine ev_aload_n dX6_scoreNow_17 rfl rfl ?_
    refine ev_getR (b := 36) dX6_scoreNow_18 fl_X6_22 (ly_k hX.ly 32 rfl) (ly_r hX.ly 3 rfl) ?_
    refine ev_iload_n dX6_scoreNow_21 rfl rfl ?_
    refine ev_iald (v := A 73 T) dX6_scoreNow_22 (ly_k hX.ly 36 rfl) (am_ixn (by omega) (by decide)) (hX.r36 T) ?_
    refine ev_callV (as := [.int (nI (mk_m (s_rt A (s_se A T)) (s_nq A))), .int (A 73 T)]) (st := []) dX6_scoreNow_23 mfX0_worth lk_X6_190 (ly_k hX.ly 54 rfl) (by decide) rfl (c_X0_worth G D A σ hA hX (mk_m (s_rt A (s_se A T)) (s_nq A)) (mk_31 (by omega)) (A 73 T) hc) rfl rfl (Nat.le_of_ble_eq_true rfl) (am_hR (by omega) (by decide)) ⟨Nat.le_refl _, Nat.le_refl _⟩ ?_
    rintro _ _ ⟨rfl, rfl⟩
    refine ev_goto (tgt := 30) dX6_scoreNow_26 (by decide) ?_
    refine ev_reti dX6_scoreNow_30 rfl (Nat.zero_le _) (Nat.zero_le _) ?_
    exact ⟨by rw [s_nowW], rfl⟩
  · skip
    exact absurd ⟨_, by omega, rfl⟩ hn

set_option maxHeartbeats 400000 in
set_option maxRecDepth 100000 in
theorem c_X6_scoreIf (G : am_G) (D : Nat) (A : am_S) (σ : am_M) (hA : wf_A A) (hX : iv_X A σ) (T : Nat) (hT : T < 3) (m : Nat) (hm2n : m < 2 ^ s_np A) (hc : cb_X A σ) : am_Mt G (D + 2) mX6_scoreIf [.ref 32, .int (nI T), .int (nI m)] σ 0 0 (am_q (.int (s_sc A (fun p => m.testBit p) (A 73 T) (fun _ => true))) σ) := by
  have b7 := wf_np7 hA
  have b8 := wf_nq8 hA
  have b6 := wf_nt6 hA
  have b61 := wf_nt1 hA
  have b160 := wf_tp160 hA
  have brl := wf_rlt hA
  refine am_of moX6_scoreIf (Nat.le_of_ble_eq_true rfl) ?_
  show am_Ev G mX6_scoreIf (am_R (D + 2) 0 0) 0 0 (am_q (.int (s_sc A (fun p => m.testBit p) (A 73 T) (fun _ => true))) σ) 0 [(0, .ref 32), (1, .int (nI T)), (2, .int (nI m))] [] σ 0 0
  refine ev_iload_n dX6_scoreIf_0 rfl rfl ?_
  refine ev_callS (as := [.int (nI T)]) (st := []) dX6_scoreIf_1 mfX6_isTable lk_X6_161 (c_X6_isTable G (D + 1) σ (nI T)) rfl rfl (Nat.le_of_ble_eq_true rfl) (am_hR (by omega) (by decide)) ⟨Nat.le_refl _, Nat.le_refl _⟩ ?_
  rintro _ _ (⟨-, rfl, rfl⟩ | ⟨hn, rfl, rfl⟩)
  · skip
    refine ev_if_eq (tgt := 31) dX6_scoreIf_4 (by decide) (fun c => absurd c (by decide)) (fun _ => ?_)
    refine ev_aload_n dX6_scoreIf_7 rfl rfl ?_
    refine ev_getR (b := 54) dX6_scoreIf_8 fl_X6_55 (ly_k hX.ly 32 rfl) (ly_r hX.ly 8 rfl) ?_
    refine ev_aload_n dX6_scoreIf_11 rfl rfl ?_
    refine ev_getR (b := 54) dX6_scoreIf_12 fl_X6_55 (ly_k hX.ly 32 rfl) (ly_r hX.ly 8 rfl) ?_
    refine ev_iload_n dX6_scoreIf_15 rfl rfl ?_
    refine ev_callV (as := [.int (nI m)]) (st := [.ref 54]) dX6_scoreIf_16 mfX0_rightOf lk_X6_314 (ly_k hX.ly 54 rfl) (by decide) rfl (c_X0_rightOf G D A σ hA hX m hm2n hc) rfl rfl (Nat.le_of_ble_eq_true rfl) (am_hR (by omega) (by decide)) ⟨Nat.le_refl _, Nat.le_refl _⟩ ?_
    rintro _ _ ⟨rfl, rfl⟩
    refine ev_aload_n dX6_scoreIf_19 rfl rfl ?_
    refine ev_getR (b := 36) dX6_scoreIf_20 fl_X6_22 (ly_k hX.ly 32 rfl) (ly_r hX.ly 3 rfl) ?_
    refine ev_iload_n dX6_scoreIf_23 rfl rfl ?_
    refine ev_iald (v := A 73 T) dX6_scoreIf_24 (ly_k hX.ly 36 rfl) (am_ixn (by omega) (by decide)) (hX.r36 T) ?_
    refine ev_callV (as := [.int (nI (mk_m (s_rt A (fun p => (m).testBit p)) (s_nq A))), .int (A 73 T)]) (st := []) dX6_scoreIf_25 mfX0_worth lk_X6_190 (ly_k hX.ly 54 rfl) (by decide) rfl (c_X0_worth G (D + 1) A σ hA hX (mk_m (s_rt A (fun p => (m).testBit p)) (s_nq A)) (mk_31 (by omega)) (A 73 T) hc) rfl rfl (Nat.le_of_ble_eq_true rfl) (am_hR (by omega) (by decide)) ⟨Nat.le_refl _, Nat.le_refl _⟩ ?_
    rintro _ _ ⟨rfl, rfl⟩
    refine ev_goto (tgt := 32) dX6_scoreIf_28 (by decide) ?_
    refine ev_reti dX6_scoreIf_32 rfl (Nat.zero_le _) (Nat.zero_le _) ?_
    exact ⟨by rw [s_scW], rfl⟩
  · skip
    exact absurd ⟨_, by omega, rfl⟩ hn

set_option maxHeartbeats 400000 in
set_option maxRecDepth 100000 in
theorem c_X6_winner (G : am_G) (D : Nat) (A : am_S) (σ : am_M) (hA : wf_A A) (hX : iv_X A σ) (hc : cb_X A σ) (hr : cr_X A σ) : am_Mt G (D + 2) mX6_winner [.ref 32] σ 0 0 (am_q (.int (nI (s_wn A))) σ) := by
  have b7 := wf_np7 hA
  have b8 := wf_nq8 hA
  have b6 := wf_nt6 hA
  have b61 := wf_nt1 hA
  have b160 := wf_tp160 hA
  have brl := wf_rlt hA
  refine am_of moX6_winner (Nat.le_of_ble_eq_true rfl) ?_
  show am_Ev G mX6_winner (am_R (D + 2) 0 0) 0 0 (am_q (.int (nI (s_wn A))) σ) 0 [(0, .ref 32)] [] σ 0 0
  refine ev_iconst (v := 0) dX6_winner_0 (by decide) ?_
  refine ev_istore_n (lv' := [(0, .ref 32), (1, .int 0)]) dX6_winner_1 rfl (by decide) rfl ?_
  refine ev_iconst (v := 1) dX6_winner_2 (by decide) ?_
  refine ev_istore_n (lv' := [(0, .ref 32), (1, .int 0), (2, .int 1)]) dX6_winner_3 rfl (by decide) rfl ?_
  refine ev_iload_n dX6_winner_4 rfl rfl ?_
  refine ev_iconst (v := 3) dX6_winner_5 (by decide) ?_
  refine ev_icmp_ge (tgt := 30) dX6_winner_6 (by decide) (fun c => absurd c (by decide)) (fun _ => ?_)
  refine ev_aload_n dX6_winner_9 rfl rfl ?_
  refine ev_iload_n dX6_winner_10 rfl rfl ?_
  refine ev_callV (as := [.int 1]) (st := []) dX6_winner_11 mfX6_scoreNow lk_X6_177 (ly_k hX.ly 32 rfl) (by decide) rfl (c_X6_scoreNow G D A σ hA hX 1 (by omega) hc hr) rfl rfl (Nat.le_of_ble_eq_true rfl) (am_hR (by omega) (by decide)) ⟨Nat.le_refl _, Nat.le_refl _⟩ ?_
  rintro _ _ ⟨rfl, rfl⟩
  refine ev_aload_n dX6_winner_14 rfl rfl ?_
  refine ev_iload_n dX6_winner_15 rfl rfl ?_
  refine ev_callV (as := [.int 0]) (st := [.int (s_now A 1)]) dX6_winner_16 mfX6_scoreNow lk_X6_177 (ly_k hX.ly 32 rfl) (by decide) rfl (c_X6_scoreNow G D A σ hA hX 0 (by omega) hc hr) rfl rfl (Nat.le_of_ble_eq_true rfl) (am_hR (by omega) (by decide)) ⟨Nat.le_refl _, Nat.le_refl _⟩ ?_
  rintro _ _ ⟨rfl, rfl⟩
  refine ev_icmp_le (tgt := 24) dX6_winner_19 (by decide) (fun c1 => ?_) (fun c1 => ?_)
  · skip
    refine ev_iinc (lv' := [(0, .ref 32), (1, .int 0), (2, .int 2)]) (v := 2) dX6_winner_24 rfl (by decide) (by decide) rfl ?_
    refine ev_goto (tgt := 4) dX6_winner_27 (by decide) ?_
    refine ev_iload_n dX6_winner_4 rfl rfl ?_
    refine ev_iconst (v := 3) dX6_winner_5 (by decide) ?_
    refine ev_icmp_ge (tgt := 30) dX6_winner_6 (by decide) (fun c => absurd c (by decide)) (fun _ => ?_)
    refine ev_aload_n dX6_winner_9 rfl rfl ?_
    refine ev_iload_n dX6_winner_10 rfl rfl ?_
    refine ev_callV (as := [.int 2]) (st := []) dX6_winner_11 mfX6_scoreNow lk_X6_177 (ly_k hX.ly 32 rfl) (by decide) rfl (c_X6_scoreNow G D A σ hA hX 2 (by omega) hc hr) rfl rfl (Nat.le_of_ble_eq_true rfl) (am_hR (by omega) (by decide)) ⟨Nat.le_refl _, Nat.le_refl _⟩ ?_
    rintro _ _ ⟨rfl, rfl⟩
    refine ev_aload_n dX6_winner_14 rfl rfl ?_
    refine ev_iload_n dX6_winner_15 rfl rfl ?_
    refine ev_callV (as := [.int 0]) (st := [.int (s_now A 2)]) dX6_winner_16 mfX6_scoreNow lk_X6_177 (ly_k hX.ly 32 rfl) (by decide) rfl (c_X6_scoreNow G D A σ hA hX 0 (by omega) hc hr) rfl rfl (Nat.le_of_ble_eq_true rfl) (am_hR (by omega) (by decide)) ⟨Nat.le_refl _, Nat.le_refl _⟩ ?_
    rintro _ _ ⟨rfl, rfl⟩
    refine ev_icmp_le (tgt := 24) dX6_winner_19 (by decide) (fun c2 => ?_) (fun c2 => ?_)
    · skip
      refine ev_iinc (lv' := [(0, .ref 32), (1, .int 0), (2, .int 3)]) (v := 3) dX6_winner_24 rfl (by decide) (by decide) rfl ?_
      refine ev_goto (tgt := 4) dX6_winner_27 (by decide) ?_
      refine ev_iload_n dX6_winner_4 rfl rfl ?_
      refine ev_iconst (v := 3) dX6_winner_5 (by decide) ?_
      refine ev_icmp_ge (tgt := 30) dX6_winner_6 (by decide) (fun _ => ?_) (fun c => absurd (by decide) c)
      refine ev_iload_n dX6_winner_30 rfl rfl ?_
      refine ev_reti dX6_winner_31 rfl (Nat.zero_le _) (Nat.zero_le _) ?_
      have e1 : (if s_now A 0 < s_now A 1 then 1 else 0) = 0 := if_neg (Int32.not_lt.mpr c1)
      have e2 : s_wn A = 0 := by unfold s_wn; rw [e1]; exact if_neg (Int32.not_lt.mpr c2)
      exact ⟨by rw [e2]; rfl, rfl⟩
    · skip
      refine ev_iload_n dX6_winner_22 rfl rfl ?_
      refine ev_istore_n (lv' := [(0, .ref 32), (1, .int 2), (2, .int 2)]) dX6_winner_23 rfl (by decide) rfl ?_
      refine ev_iinc (lv' := [(0, .ref 32), (1, .int 2), (2, .int 3)]) (v := 3) dX6_winner_24 rfl (by decide) (by decide) rfl ?_
      refine ev_goto (tgt := 4) dX6_winner_27 (by decide) ?_
      refine ev_iload_n dX6_winner_4 rfl rfl ?_
      refine ev_iconst (v := 3) dX6_winner_5 (by decide) ?_
      refine ev_icmp_ge (tgt := 30) dX6_winner_6 (by decide) (fun _ => ?_) (fun c => absurd (by decide) c)
      refine ev_iload_n dX6_winner_30 rfl rfl ?_
      refine ev_reti dX6_winner_31 rfl (Nat.zero_le _) (Nat.zero_le _) ?_
      have e1 : (if s_now A 0 < s_now A 1 then 1 else 0) = 0 := if_neg (Int32.not_lt.mpr c1)
      have e2 : s_wn A = 2 := by unfold s_wn; rw [e1]; exact if_pos (Int32.not_le.mp c2)
      exact ⟨by rw [e2]; rfl, rfl⟩
  · skip
    refine ev_iload_n dX6_winner_22 rfl rfl ?_
    refine ev_istore_n (lv' := [(0, .ref 32), (1, .int 1), (2, .int 1)]) dX6_winner_23 rfl (by decide) rfl ?_
    refine ev_iinc (lv' := [(0, .ref 32), (1, .int 1), (2, .int 2)]) (v := 2) dX6_winner_24 rfl (by decide) (by decide) rfl ?_
    refine ev_goto (tgt := 4) dX6_winner_27 (by decide) ?_
    refine ev_iload_n dX6_winner_4 rfl rfl ?_
    refine ev_iconst (v := 3) dX6_winner_5 (by decide) ?_
    refine ev_icmp_ge (tgt := 30) dX6_winner_6 (by decide) (fun c => absurd c (by decide)) (fun _ => ?_)
    refine ev_aload_n dX6_winner_9 rfl rfl ?_
    refine ev_iload_n dX6_winner_10 rfl rfl ?_
    refine ev_callV (as := [.int 2]) (st := []) dX6_winner_11 mfX6_scoreNow lk_X6_177 (ly_k hX.ly 32 rfl) (by decide) rfl (c_X6_scoreNow G D A σ hA hX 2 (by omega) hc hr) rfl rfl (Nat.le_of_ble_eq_true rfl) (am_hR (by omega) (by decide)) ⟨Nat.le_refl _, Nat.le_refl _⟩ ?_
    rintro _ _ ⟨rfl, rfl⟩
    refine ev_aload_n dX6_winner_14 rfl rfl ?_
    refine ev_iload_n dX6_winner_15 rfl rfl ?_
    refine ev_callV (as := [.int 1]) (st := [.int (s_now A 2)]) dX6_winner_16 mfX6_scoreNow lk_X6_177 (ly_k hX.ly 32 rfl) (by decide) rfl (c_X6_scoreNow G D A σ hA hX 1 (by omega) hc hr) rfl rfl (Nat.le_of_ble_eq_true rfl) (am_hR (by omega) (by decide)) ⟨Nat.le_refl _, Nat.le_refl _⟩ ?_
    rintro _ _ ⟨rfl, rfl⟩
    refine ev_icmp_le (tgt := 24) dX6_winner_19 (by decide) (fun c3 => ?_) (fun c3 => ?_)
    · skip
      refine ev_iinc (lv' := [(0, .ref 32), (1, .int 1), (2, .int 3)]) (v := 3) dX6_winner_24 rfl (by decide) (by decide) rfl ?_
      refine ev_goto (tgt := 4) dX6_winner_27 (by decide) ?_
      refine ev_iload_n dX6_winner_4 rfl rfl ?_
      refine ev_iconst (v := 3) dX6_winner_5 (by decide) ?_
      refine ev_icmp_ge (tgt := 30) dX6_winner_6 (by decide) (fun _ => ?_) (fun c => absurd (by decide) c)
      refine ev_iload_n dX6_winner_30 rfl rfl ?_
      refine ev_reti dX6_winner_31 rfl (Nat.zero_le _) (Nat.zero_le _) ?_
      have e1 : (if s_now A 0 < s_now A 1 then 1 else 0) = 1 := if_pos (Int32.not_le.mp c1)
      have e2 : s_wn A = 1 := by unfold s_wn; rw [e1]; exact if_neg (Int32.not_lt.mpr c3)
      exact ⟨by rw [e2]; rfl, rfl⟩
    · skip
      refine ev_iload_n dX6_winner_22 rfl rfl ?_
      refine ev_istore_n (lv' := [(0, .ref 32), (1, .int 2), (2, .int 2)]) dX6_winner_23 rfl (by decide) rfl ?_
      refine ev_iinc (lv' := [(0, .ref 32), (1, .int 2), (2, .int 3)]) (v := 3) dX6_winner_24 rfl (by decide) (by decide) rfl ?_
      refine ev_goto (tgt := 4) dX6_winner_27 (by decide) ?_
      refine ev_iload_n dX6_winner_4 rfl rfl ?_
      refine ev_iconst (v := 3) dX6_winner_5 (by decide) ?_
      refine ev_icmp_ge (tgt := 30) dX6_winner_6 (by decide) (fun _ => ?_) (fun c => absurd (by decide) c)
      refine ev_iload_n dX6_winner_30 rfl rfl ?_
      refine ev_reti dX6_winner_31 rfl (Nat.zero_le _) (Nat.zero_le _) ?_
      have e1 : (if s_now A 0 < s_now A 1 then 1 else 0) = 1 := if_pos (Int32.not_le.mp c1)
      have e2 : s_wn A = 2 := by unfold s_wn; rw [e1]; exact if_pos (Int32.not_le.mp c3)
      exact ⟨by rw [e2]; rfl, rfl⟩

set_option maxHeartbeats 400000 in
set_option maxRecDepth 100000 in
theorem c_X6_apartBy (G : am_G) (D : Nat) (A : am_S) (σ : am_M) (hA : wf_A A) (hX : iv_X A σ) (st : Nat) (hst : st < 2 ^ 31) (hc : cb_X A σ) (hr : cr_X A σ) : am_Mt G (D + 1) mX6_apartBy [.ref 32, .int (nI st)] σ 0 0 (am_q (.int (s_ap A (fun q => st.testBit q))) σ) := by
  have b7 := wf_np7 hA
  have b8 := wf_nq8 hA
  have b6 := wf_nt6 hA
  have b61 := wf_nt1 hA
  have b160 := wf_tp160 hA
  have brl := wf_rlt hA
  refine am_of moX6_apartBy (Nat.le_of_ble_eq_true rfl) ?_
  show am_Ev G mX6_apartBy (am_R (D + 1) 0 0) 0 0 (am_q (.int (s_ap A (fun q => st.testBit q))) σ) 0 [(0, .ref 32), (1, .int (nI st))] [] σ 0 0
  refine ev_aload_n dX6_apartBy_0 rfl rfl ?_
  refine ev_getR (b := 54) dX6_apartBy_1 fl_X6_55 (ly_k hX.ly 32 rfl) (ly_r hX.ly 8 rfl) ?_
  refine ev_aload_n dX6_apartBy_4 rfl rfl ?_
  refine ev_getR (b := 59) dX6_apartBy_5 fl_X6_59 (ly_k hX.ly 32 rfl) (ly_r hX.ly 9 rfl) ?_
  refine ev_iconst (v := 0) dX6_apartBy_8 (by decide) ?_
  refine ev_iald (v := nI (mk_m (s_rt A (s_se A 0)) (s_nq A))) dX6_apartBy_9 (ly_k hX.ly 59 rfl) (am_ixn (j := 0) (by decide) (by decide)) (hr 0 (by omega)) ?_
  refine ev_iload_n dX6_apartBy_10 rfl rfl ?_
  refine ev_iand (v := nI (mk_m (s_rt A (s_se A 0)) (s_nq A) &&& st)) dX6_apartBy_11 (fa_and _ _) ?_
  refine ev_aload_n dX6_apartBy_12 rfl rfl ?_
  refine ev_getR (b := 36) dX6_apartBy_13 fl_X6_22 (ly_k hX.ly 32 rfl) (ly_r hX.ly 3 rfl) ?_
  refine ev_iconst (v := 0) dX6_apartBy_16 (by decide) ?_
  refine ev_iald (v := A 73 0) dX6_apartBy_17 (ly_k hX.ly 36 rfl) (am_ixn (j := 0) (by decide) (by decide)) (hX.r36 0) ?_
  refine ev_callV (as := [.int (nI (mk_m (s_rt A (s_se A 0)) (s_nq A) &&& st)), .int (A 73 0)]) (st := []) dX6_apartBy_18 mfX0_worth lk_X6_190 (ly_k hX.ly 54 rfl) (by decide) rfl (c_X0_worth G D A σ hA hX (mk_m (s_rt A (s_se A 0)) (s_nq A) &&& st) (Nat.lt_of_le_of_lt Nat.and_le_left (mk_31 (by omega))) (A 73 0) hc) rfl rfl (Nat.le_of_ble_eq_true rfl) (am_hR (by omega) (by decide)) ⟨Nat.le_refl _, Nat.le_refl _⟩ ?_
  rintro _ _ ⟨rfl, rfl⟩
  rw [s_scFm]
  change am_Ev G mX6_apartBy (am_R (D + 1) 0 0) 0 0 (am_q (.int (s_ap A (fun q => st.testBit q))) σ) 21 [(0, .ref 32), (1, .int (nI st))] [.int (s_scF A 0 (fun q => st.testBit q))] σ 0 0
  refine ev_istore_n (lv' := [(0, .ref 32), (1, .int (nI st)), (2, .int (s_scF A 0 (fun q => st.testBit q)))]) dX6_apartBy_21 rfl (by decide) rfl ?_
  refine ev_iload_n dX6_apartBy_22 rfl rfl ?_
  refine ev_istore_n (lv' := [(0, .ref 32), (1, .int (nI st)), (2, .int (s_scF A 0 (fun q => st.testBit q))), (3, .int (s_scF A 0 (fun q => st.testBit q)))]) dX6_apartBy_23 rfl (by decide) rfl ?_
  refine ev_iconst (v := 1) dX6_apartBy_24 (by decide) ?_
  refine ev_istore (lv' := [(0, .ref 32), (1, .int (nI st)), (2, .int (s_scF A 0 (fun q => st.testBit q))), (3, .int (s_scF A 0 (fun q => st.testBit q))), (4, .int 1)]) dX6_apartBy_25 (by decide) rfl ?_
  refine ev_iload dX6_apartBy_27 rfl ?_
  refine ev_iconst (v := 3) dX6_apartBy_29 (by decide) ?_
  refine ev_icmp_ge (tgt := 78) dX6_apartBy_30 (by decide) (fun c => absurd c (by decide)) (fun _ => ?_)
  refine ev_aload_n dX6_apartBy_33 rfl rfl ?_
  refine ev_getR (b := 54) dX6_apartBy_34 fl_X6_55 (ly_k hX.ly 32 rfl) (ly_r hX.ly 8 rfl) ?_
  refine ev_aload_n dX6_apartBy_37 rfl rfl ?_
  refine ev_getR (b := 59) dX6_apartBy_38 fl_X6_59 (ly_k hX.ly 32 rfl) (ly_r hX.ly 9 rfl) ?_
  refine ev_iload dX6_apartBy_41 rfl ?_
  refine ev_iald (v := nI (mk_m (s_rt A (s_se A 1)) (s_nq A))) dX6_apartBy_43 (ly_k hX.ly 59 rfl) (am_ixn (j := 1) (by decide) (by decide)) (hr 1 (by omega)) ?_
  refine ev_iload_n dX6_apartBy_44 rfl rfl ?_
  refine ev_iand (v := nI (mk_m (s_rt A (s_se A 1)) (s_nq A) &&& st)) dX6_apartBy_45 (fa_and _ _) ?_
  refine ev_aload_n dX6_apartBy_46 rfl rfl ?_
  refine ev_getR (b := 36) dX6_apartBy_47 fl_X6_22 (ly_k hX.ly 32 rfl) (ly_r hX.ly 3 rfl) ?_
  refine ev_iload dX6_apartBy_50 rfl ?_
  refine ev_iald (v := A 73 1) dX6_apartBy_52 (ly_k hX.ly 36 rfl) (am_ixn (j := 1) (by decide) (by decide)) (hX.r36 1) ?_
  refine ev_callV (as := [.int (nI (mk_m (s_rt A (s_se A 1)) (s_nq A) &&& st)), .int (A 73 1)]) (st := []) dX6_apartBy_53 mfX0_worth lk_X6_190 (ly_k hX.ly 54 rfl) (by decide) rfl (c_X0_worth G D A σ hA hX (mk_m (s_rt A (s_se A 1)) (s_nq A) &&& st) (Nat.lt_of_le_of_lt Nat.and_le_left (mk_31 (by omega))) (A 73 1) hc) rfl rfl (Nat.le_of_ble_eq_true rfl) (am_hR (by omega) (by decide)) ⟨Nat.le_refl _, Nat.le_refl _⟩ ?_
  rintro _ _ ⟨rfl, rfl⟩
  rw [s_scFm]
  change am_Ev G mX6_apartBy (am_R (D + 1) 0 0) 0 0 (am_q (.int (s_ap A (fun q => st.testBit q))) σ) 56 [(0, .ref 32), (1, .int (nI st)), (2, .int (s_scF A 0 (fun q => st.testBit q))), (3, .int (s_scF A 0 (fun q => st.testBit q))), (4, .int 1)] [.int (s_scF A 1 (fun q => st.testBit q))] σ 0 0
  refine ev_istore (lv' := [(0, .ref 32), (1, .int (nI st)), (2, .int (s_scF A 0 (fun q => st.testBit q))), (3, .int (s_scF A 0 (fun q => st.testBit q))), (4, .int 1), (5, .int (s_scF A 1 (fun q => st.testBit q)))]) dX6_apartBy_56 (by decide) rfl ?_
  refine ev_iload_n dX6_apartBy_58 rfl rfl ?_
  refine ev_iload dX6_apartBy_59 rfl ?_
  refine ev_max (v := s_mx (s_scF A 0 (fun q => st.testBit q)) (s_scF A 1 (fun q => st.testBit q))) dX6_apartBy_61 lk_X6_300 rfl (Nat.le_of_ble_eq_true rfl) ⟨Nat.le_add_left _ _, by simp only [am_R]; omega⟩ ⟨Nat.zero_le _, Nat.zero_le _⟩ ?_
  refine ev_istore_n (lv' := [(0, .ref 32), (1, .int (nI st)), (2, .int (s_mx (s_scF A 0 (fun q => st.testBit q)) (s_scF A 1 (fun q => st.testBit q)))), (3, .int (s_scF A 0 (fun q => st.testBit q))), (4, .int 1), (5, .int (s_scF A 1 (fun q => st.testBit q)))]) dX6_apartBy_64 rfl (by decide) rfl ?_
  refine ev_iload_n dX6_apartBy_65 rfl rfl ?_
  refine ev_iload dX6_apartBy_66 rfl ?_
  refine ev_min (v := s_mn (s_scF A 0 (fun q => st.testBit q)) (s_scF A 1 (fun q => st.testBit q))) dX6_apartBy_68 lk_X6_295 rfl (Nat.le_of_ble_eq_true rfl) ⟨Nat.le_add_left _ _, by simp only [am_R]; omega⟩ ⟨Nat.zero_le _, Nat.zero_le _⟩ ?_
  refine ev_istore_n (lv' := [(0, .ref 32), (1, .int (nI st)), (2, .int (s_mx (s_scF A 0 (fun q => st.testBit q)) (s_scF A 1 (fun q => st.testBit q)))), (3, .int (s_mn (s_scF A 0 (fun q => st.testBit q)) (s_scF A 1 (fun q => st.testBit q)))), (4, .int 1), (5, .int (s_scF A 1 (fun q => st.testBit q)))]) dX6_apartBy_71 rfl (by decide) rfl ?_
  refine ev_iinc (lv' := [(0, .ref 32), (1, .int (nI st)), (2, .int (s_mx (s_scF A 0 (fun q => st.testBit q)) (s_scF A 1 (fun q => st.testBit q)))), (3, .int (s_mn (s_scF A 0 (fun q => st.testBit q)) (s_scF A 1 (fun q => st.testBit q)))), (4, .int 2), (5, .int (s_scF A 1 (fun q => st.testBit q)))]) (v := 2) dX6_apartBy_72 rfl (by decide) (by decide) rfl ?_
  refine ev_goto (tgt := 27) dX6_apartBy_75 (by decide) ?_
  refine ev_iload dX6_apartBy_27 rfl ?_
  refine ev_iconst (v := 3) dX6_apartBy_29 (by decide) ?_
  refine ev_icmp_ge (tgt := 78) dX6_apartBy_30 (by decide) (fun c => absurd c (by decide)) (fun _ => ?_)
  refine ev_aload_n dX6_apartBy_33 rfl rfl ?_
  refine ev_getR (b := 54) dX6_apartBy_34 fl_X6_55 (ly_k hX.ly 32 rfl) (ly_r hX.ly 8 rfl) ?_
  refine ev_aload_n dX6_apartBy_37 rfl rfl ?_
  refine ev_getR (b := 59) dX6_apartBy_38 fl_X6_59 (ly_k hX.ly 32 rfl) (ly_r hX.ly 9 rfl) ?_
  refine ev_iload dX6_apartBy_41 rfl ?_
  refine ev_iald (v := nI (mk_m (s_rt A (s_se A 2)) (s_nq A))) dX6_apartBy_43 (ly_k hX.ly 59 rfl) (am_ixn (j := 2) (by decide) (by decide)) (hr 2 (by omega)) ?_
  refine ev_iload_n dX6_apartBy_44 rfl rfl ?_
  refine ev_iand (v := nI (mk_m (s_rt A (s_se A 2)) (s_nq A) &&& st)) dX6_apartBy_45 (fa_and _ _) ?_
  refine ev_aload_n dX6_apartBy_46 rfl rfl ?_
  refine ev_getR (b := 36) dX6_apartBy_47 fl_X6_22 (ly_k hX.ly 32 rfl) (ly_r hX.ly 3 rfl) ?_
  refine ev_iload dX6_apartBy_50 rfl ?_
  refine ev_iald (v := A 73 2) dX6_apartBy_52 (ly_k hX.ly 36 rfl) (am_ixn (j := 2) (by decide) (by decide)) (hX.r36 2) ?_
  refine ev_callV (as := [.int (nI (mk_m (s_rt A (s_se A 2)) (s_nq A) &&& st)), .int (A 73 2)]) (st := []) dX6_apartBy_53 mfX0_worth lk_X6_190 (ly_k hX.ly 54 rfl) (by decide) rfl (c_X0_worth G D A σ hA hX (mk_m (s_rt A (s_se A 2)) (s_nq A) &&& st) (Nat.lt_of_le_of_lt Nat.and_le_left (mk_31 (by omega))) (A 73 2) hc) rfl rfl (Nat.le_of_ble_eq_true rfl) (am_hR (by omega) (by decide)) ⟨Nat.le_refl _, Nat.le_refl _⟩ ?_
  rintro _ _ ⟨rfl, rfl⟩
  rw [s_scFm]
  change am_Ev G mX6_apartBy (am_R (D + 1) 0 0) 0 0 (am_q (.int (s_ap A (fun q => st.testBit q))) σ) 56 [(0, .ref 32), (1, .int (nI st)), (2, .int (s_mx (s_scF A 0 (fun q => st.testBit q)) (s_scF A 1 (fun q => st.testBit q)))), (3, .int (s_mn (s_scF A 0 (fun q => st.testBit q)) (s_scF A 1 (fun q => st.testBit q)))), (4, .int 2), (5, .int (s_scF A 1 (fun q => st.testBit q)))] [.int (s_scF A 2 (fun q => st.testBit q))] σ 0 0
  refine ev_istore (lv' := [(0, .ref 32), (1, .int (nI st)), (2, .int (s_mx (s_scF A 0 (fun q => st.testBit q)) (s_scF A 1 (fun q => st.testBit q)))), (3, .int (s_mn (s_scF A 0 (fun q => st.testBit q)) (s_scF A 1 (fun q => st.testBit q)))), (4, .int 2), (5, .int (s_scF A 2 (fun q => st.testBit q)))]) dX6_apartBy_56 (by decide) rfl ?_
  refine ev_iload_n dX6_apartBy_58 rfl rfl ?_
  refine ev_iload dX6_apartBy_59 rfl ?_
  refine ev_max (v := s_mx (s_mx (s_scF A 0 (fun q => st.testBit q)) (s_scF A 1 (fun q => st.testBit q))) (s_scF A 2 (fun q => st.testBit q))) dX6_apartBy_61 lk_X6_300 rfl (Nat.le_of_ble_eq_true rfl) ⟨Nat.le_add_left _ _, by simp only [am_R]; omega⟩ ⟨Nat.zero_le _, Nat.zero_le _⟩ ?_
  refine ev_istore_n (lv' := [(0, .ref 32), (1, .int (nI st)), (2, .int (s_mx (s_mx (s_scF A 0 (fun q => st.testBit q)) (s_scF A 1 (fun q => st.testBit q))) (s_scF A 2 (fun q => st.testBit q)))), (3, .int (s_mn (s_scF A 0 (fun q => st.testBit q)) (s_scF A 1 (fun q => st.testBit q)))), (4, .int 2), (5, .int (s_scF A 2 (fun q => st.testBit q)))]) dX6_apartBy_64 rfl (by decide) rfl ?_
  refine ev_iload_n dX6_apartBy_65 rfl rfl ?_
  refine ev_iload dX6_apartBy_66 rfl ?_
  refine ev_min (v := s_mn (s_mn (s_scF A 0 (fun q => st.testBit q)) (s_scF A 1 (fun q => st.testBit q))) (s_scF A 2 (fun q => st.testBit q))) dX6_apartBy_68 lk_X6_295 rfl (Nat.le_of_ble_eq_true rfl) ⟨Nat.le_add_left _ _, by simp only [am_R]; omega⟩ ⟨Nat.zero_le _, Nat.zero_le _⟩ ?_
  refine ev_istore_n (lv' := [(0, .ref 32), (1, .int (nI st)), (2, .int (s_mx (s_mx (s_scF A 0 (fun q => st.testBit q)) (s_scF A 1 (fun q => st.testBit q))) (s_scF A 2 (fun q => st.testBit q)))), (3, .int (s_mn (s_mn (s_scF A 0 (fun q => st.testBit q)) (s_scF A 1 (fun q => st.testBit q))) (s_scF A 2 (fun q => st.testBit q)))), (4, .int 2), (5, .int (s_scF A 2 (fun q => st.testBit q)))]) dX6_apartBy_71 rfl (by decide) rfl ?_
  refine ev_iinc (lv' := [(0, .ref 32), (1, .int (nI st)), (2, .int (s_mx (s_mx (s_scF A 0 (fun q => st.testBit q)) (s_scF A 1 (fun q => st.testBit q))) (s_scF A 2 (fun q => st.testBit q)))), (3, .int (s_mn (s_mn (s_scF A 0 (fun q => st.testBit q)) (s_scF A 1 (fun q => st.testBit q))) (s_scF A 2 (fun q => st.testBit q)))), (4, .int 3), (5, .int (s_scF A 2 (fun q => st.testBit q)))]) (v := 3) dX6_apartBy_72 rfl (by decide) (by decide) rfl ?_
  refine ev_goto (tgt := 27) dX6_apartBy_75 (by decide) ?_
  refine ev_iload dX6_apartBy_27 rfl ?_
  refine ev_iconst (v := 3) dX6_apartBy_29 (by decide) ?_
  refine ev_icmp_ge (tgt := 78) dX6_apartBy_30 (by decide) (fun _ => ?_) (fun c => absurd (by decide) c)
  refine ev_iload_n dX6_apartBy_78 rfl rfl ?_
  refine ev_iload_n dX6_apartBy_79 rfl rfl ?_
  refine ev_isub (v := (s_mx (s_mx (s_scF A 0 (fun q => st.testBit q)) (s_scF A 1 (fun q => st.testBit q))) (s_scF A 2 (fun q => st.testBit q))) - (s_mn (s_mn (s_scF A 0 (fun q => st.testBit q)) (s_scF A 1 (fun q => st.testBit q))) (s_scF A 2 (fun q => st.testBit q)))) dX6_apartBy_80 rfl ?_
  refine ev_reti dX6_apartBy_81 rfl (Nat.zero_le _) (Nat.zero_le _) ?_
  exact ⟨rfl, rfl⟩

