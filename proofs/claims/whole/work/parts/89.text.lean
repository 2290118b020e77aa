/-! the class: what it has grown by; text -/
def fr_L (σ σ' : am_M) : Prop := ∀ a, 65 ≤ a → a < 89 → σ'.2.1 a = σ.2.1 a
theorem fr_C.L {σ τ : am_M} (h : fr_C σ τ) : fr_L σ τ := fun a h1 h2 => h.2.2 a (Or.inr h1) h2
theorem ly_Rb : ∀ q ∈ ly_R, q.1 < 89 ∧ q.1 ≠ 37 ∧ q.1 ≠ 33 := by decide
theorem ly_89 {σ : am_M} (h : ly_ok σ) : 89 ≤ σ.1.length := (List.getElem?_eq_some_iff.mp (ly_k h 88 rfl)).1
theorem ly_ext {σ τ : am_M} (h : ly_ok σ) (hk : ∀ (a : Nat) (k : Nat × Nat), σ.1[a]? = some k → τ.1[a]? = some k) (hr : ∀ a k, a < 89 → a ≠ 37 → a ≠ 33 → τ.2.2 a k = σ.2.2 a k) : ly_ok τ := by
  refine ⟨fun a k hk2 => hk a k (h.1 a k hk2), fun i q hq => ?_⟩
  obtain ⟨h1, h2, h3⟩ := ly_Rb q (List.mem_of_getElem? hq)
  exact (hr q.1 q.2.1 h1 h2 h3).trans (h.2 i q hq)
/-- the class's state behind a call that lays something new -/
theorem iv_X.ext {A B : am_S} {σ τ : am_M} (h : iv_X A σ) (hA : wf_A A)
    (hk : ∀ (a : Nat) (k : Nat × Nat), σ.1[a]? = some k → τ.1[a]? = some k)
    (hi : ∀ a k, a < σ.1.length → ¬ ((a = 38 ∧ 2 ≤ k) ∨ a = 40 ∨ (a = 32 ∧ (k = 12 ∨ k = 14))) → τ.2.1 a k = σ.2.1 a k)
    (hr : ∀ a k, a < σ.1.length → ¬ (a = 37 ∧ s_nt A ≤ k) → ¬ (a = 33 ∧ s_np A ≤ k) → τ.2.2 a k = σ.2.2 a k)
    (hB : ∀ a k, ¬ (a = 65 ∧ (k = 0 ∨ k = 11 ∨ k = 14)) → ¬ (a = 75 ∧ 200 * s_nt A ≤ k) → ¬ (a = 76 ∧ 4 * s_nt A ≤ k) → ¬ (66 ≤ a ∧ a ≤ 69 ∧ s_np A ≤ k) → ¬ (a = 70 ∧ 4 * s_np A ≤ k) → B a k = A a k)
    (h38 : τ.2.1 38 2 = B 65 11) (h12 : τ.2.1 32 12 = B 65 0) (h14 : τ.2.1 32 14 = B 65 14)
    (hT : ∀ t, t < s_nt B → t < s_nt A ∨ ∃ x, τ.2.2 37 t = some x ∧ x_X B τ t x)
    (hP : ∀ p, p < s_np B → p < s_np A ∨ ∃ g, τ.2.2 33 p = some g ∧ x_G B τ p g)
    (hN : ∀ p q g, p < s_np B → q < s_np B → τ.2.2 33 p = some g → τ.2.2 33 q = some g → p = q) : iv_X B τ := by
  have hl := ly_89 h.ly
  have e65 : ∀ k, k ≠ 0 → k ≠ 11 → k ≠ 14 → B 65 k = A 65 k := fun k h0 h1 h2 => hB 65 k (by omega) (by omega) (by omega) (by omega) (by omega)
  have eF : ∀ a, 71 ≤ a → a ≠ 75 → a ≠ 76 → B a = A a := fun a h0 h1 h2 => funext fun k => hB a k (by omega) (by omega) (by omega) (by omega) (by omega)
  have eI : ∀ a, a < 89 → a ≠ 38 → a ≠ 40 → a ≠ 32 → τ.2.1 a = σ.2.1 a := fun a h0 h1 h2 h3 => funext fun k => hi a k (by omega) (by omega)
  refine ⟨ly_ext h.ly hk (fun a k h0 h1 h2 => hr a k (by omega) (by omega) (by omega)), ?_, fun s hs => ?_, ⟨fun p hp => ?_, hN⟩, fun t ht => ?_, fun z p hp => ?_⟩
  · refine ⟨h12, ?_, h14, ?_, h38, ?_, ?_, ?_, ?_, ?_, ?_, ?_, ?_, ?_⟩
    · rw [e65 6 (by decide) (by decide) (by decide)]; exact (hi 32 13 (by omega) (by omega)).trans h.f13
    · rw [e65 15 (by decide) (by decide) (by decide)]; exact (hi 32 15 (by omega) (by omega)).trans h.f15
    · rw [e65 16 (by decide) (by decide) (by decide)]; exact (hi 50 3 (by omega) (by omega)).trans h.f3
    · rw [e65 17 (by decide) (by decide) (by decide)]; exact (hi 50 4 (by omega) (by omega)).trans h.f4
    · rw [e65 18 (by decide) (by decide) (by decide)]; exact (hi 50 5 (by omega) (by omega)).trans h.f5
    · rw [e65 19 (by decide) (by decide) (by decide)]; exact (hi 50 6 (by omega) (by omega)).trans h.f6
    · rw [eI 34 (by decide) (by decide) (by decide) (by decide), eF 71 (by decide) (by decide) (by decide)]; exact funext h.r34
    · rw [eI 35 (by decide) (by decide) (by decide) (by decide), eF 72 (by decide) (by decide) (by decide)]; exact funext h.r35
    · rw [eI 36 (by decide) (by decide) (by decide) (by decide), eF 73 (by decide) (by decide) (by decide)]; exact funext h.r36
    · rw [eI 39 (by decide) (by decide) (by decide) (by decide), eF 74 (by decide) (by decide) (by decide)]; exact funext h.r39
    · rw [eI 53 (by decide) (by decide) (by decide) (by decide), eF 79 (by decide) (by decide) (by decide)]; exact funext h.r53
  · rw [eI (42 + 2 * s) (by omega) (by omega) (by omega) (by omega), eI (43 + 2 * s) (by omega) (by omega) (by omega) (by omega), eF 80 (by decide) (by decide) (by decide), eF 81 (by decide) (by decide) (by decide), eF 82 (by decide) (by decide) (by decide)]
    exact h.2.2.1 s hs
  · rcases hP p hp with hp | z
    · obtain ⟨g, hg, ⟨q1, q2, q3, q4⟩, g0, g1, g2, g4, gj⟩ := h.2.2.2.1.1 p hp
      have l1 := (List.getElem?_eq_some_iff.mp q2).1
      have l2 := (List.getElem?_eq_some_iff.mp q3).1
      refine ⟨g, (hr 33 p (by omega) (by omega) (by omega)).trans hg, ⟨q1, hk _ _ q2, hk _ _ q3, (hr g 3 l1 (by omega) (by omega)).trans q4⟩, ?_, ?_, ?_, ?_, fun j hj => ?_⟩
      · exact (hi g 0 l1 (by omega)).trans (g0.trans (hB 66 p (by omega) (by omega) (by omega) (by omega) (by omega)).symm)
      · exact (hi g 1 l1 (by omega)).trans (g1.trans (hB 68 p (by omega) (by omega) (by omega) (by omega) (by omega)).symm)
      · exact (hi g 2 l1 (by omega)).trans (g2.trans (hB 67 p (by omega) (by omega) (by omega) (by omega) (by omega)).symm)
      · exact (hi g 4 l1 (by omega)).trans (g4.trans (hB 69 p (by omega) (by omega) (by omega) (by omega) (by omega)).symm)
      · exact (hi (g + 1) j l2 (by omega)).trans ((gj j hj).trans (hB 70 (4 * p + j) (by omega) (by omega) (by omega) (by omega) (by omega)).symm)
    · exact z
  · rcases hT t ht with ht | z
    · obtain ⟨x, hx, ⟨q1, q2, q3, q4, q5, q6⟩, x1, x2, xk⟩ := h.2.2.2.2.1 t ht
      have l1 := (List.getElem?_eq_some_iff.mp q2).1
      have l2 := (List.getElem?_eq_some_iff.mp q3).1
      have es : s_st B t 3 = s_st A t 3 := congrArg sN (hB 76 (4 * t + 3) (by omega) (by omega) (by omega) (by omega) (by omega))
      obtain ⟨-, -, -, h160, -⟩ := wt_s hA ht (P := 0) (by decide)
      refine ⟨x, (hr 37 t (by omega) (by omega) (by omega)).trans hx, ⟨q1, hk _ _ q2, by rw [es]; exact hk _ _ q3, hk _ _ q4, (hr x 0 l1 (by omega) (by omega)).trans q5, (hr x 3 l1 (by omega) (by omega)).trans q6⟩, ?_, ?_, fun k hk2 => ?_⟩
      · exact (hi x 1 l1 (by omega)).trans (x1.trans (hB 76 (4 * t + 1) (by omega) (by omega) (by omega) (by omega) (by omega)).symm)
      · exact (hi x 2 l1 (by omega)).trans (x2.trans (hB 76 (4 * t + 2) (by omega) (by omega) (by omega) (by omega) (by omega)).symm)
      · rw [es] at hk2
        rw [hB 75 (200 * t + k) (by omega) (by omega) (by omega) (by omega) (by omega)]
        exact (hi (x + 1) k l2 (by omega)).trans (xk k hk2)
    · exact z
  · rw [e65 16 (by decide) (by decide) (by decide)] at z
    rw [e65 17 (by decide) (by decide) (by decide)] at hp
    rw [eI 52 (by decide) (by decide) (by decide) (by decide), eI 51 (by decide) (by decide) (by decide) (by decide), eF 77 (by decide) (by decide) (by decide), eF 78 (by decide) (by decide) (by decide)]
    exact h.2.2.2.2.2 z p hp
theorem iv_X.tb {A : am_S} {σ : am_M} (h : iv_X A σ) (hA : wf_A A) : tb_T (A 74) (s_tp A) σ := ⟨⟨ly_k h.ly 38 rfl, ly_k h.ly 39 rfl, ly_k h.ly 40 rfl, ly_r h.ly 12 rfl, ly_r h.ly 13 rfl⟩, h.f38.trans (wf_tp hA), wf_tp160 hA, fun i _ => h.r39 i⟩
theorem c_X4_clear (G : am_G) (D : Nat) (σ : am_M) (hk : σ.1[38]? = some (4, 7)) : am_Mt G D mX4_clear [.ref 38] σ 0 0 (am_qv (am_sI σ 38 2 0)) := by
  refine am_of moX4_clear (Nat.le_of_ble_eq_true rfl) ?_
  show am_Ev G mX4_clear (am_R D 0 0) 0 0 (am_qv (am_sI σ 38 2 0)) 0 [(0, .ref 38)] [] σ 0 0
  refine ev_aload_n dX4_clear_0 rfl rfl ?_
  refine ev_iconst (v := 0) dX4_clear_1 (by decide) ?_
  refine ev_putI dX4_clear_2 fl_X4_16 rfl rfl hk ?_
  exact ev_retv dX4_clear_5 rfl (Nat.le_refl _) (Nat.le_refl _) ⟨rfl, rfl⟩
/-- what text answers, and the state of whoever answers so -/
def am_qTx (A : am_S) (σ0 : am_M) : Option Value → am_M → Prop := fun r σ' => ∃ x, r = some (.int x) ∧ (∀ A' x', tx_Q A A' x' → x' = x ∧ iv_X A' σ') ∧ fr_L σ0 σ' ∧ ly_ok σ'
theorem tx_DB {A B : am_S} (h : tx_D A B) : ∀ a k, ¬ (a = 65 ∧ (k = 0 ∨ k = 11 ∨ k = 14)) → ¬ (a = 75 ∧ 200 * s_nt A ≤ k) → ¬ (a = 76 ∧ 4 * s_nt A ≤ k) → ¬ (66 ≤ a ∧ a ≤ 69 ∧ s_np A ≤ k) → ¬ (a = 70 ∧ 4 * s_np A ≤ k) → B a k = A a k := fun a k h1 h2 h3 _ _ => h.2 a k (by omega) h2 h3
theorem tx_Dp {A B : am_S} (h : tx_D A B) : B 65 0 = A 65 0 := h.2 65 0 (by omega) (by omega) (by omega)
theorem iv_X.txF {A B : am_S} {σ τ : am_M} (h : iv_X A σ) (hA : wf_A A) (hF : fr_K σ τ) (hD : tx_D A B) (hn : B 65 14 = nI (s_nt A)) : iv_X B (am_sI τ 38 2 0) := by
  have h7 := wf_nt6 hA
  have ep : s_np B = s_np A := congrArg sN (tx_Dp hD)
  have et : s_nt B = s_nt A := (congrArg sN hn).trans (sN_n (by omega))
  refine h.ext hA (fun a k hk => ?_) (fun a k ha hn2 => ?_) (fun a k _ _ _ => ?_) (tx_DB hD) ?_ ?_ ?_ (fun t ht => Or.inl (by rw [et] at ht; exact ht)) (fun p hp => Or.inl (by rw [ep] at hp; exact hp)) (fun p q g hp hq h1 h2 => ?_)
  · show τ.1[a]? = _
    rw [hF.1]; exact hk
  · exact (am_un (by omega)).trans (hF.2.2 a k (by omega))
  · show τ.2.2 a k = _
    rw [hF.2.1]
  · rw [hD.1]; exact am_rs
  · rw [tx_Dp hD]; exact am_ru (by omega) ((hF.2.2 32 12 (by omega)).trans h.f12)
  · rw [hn]; exact am_ru (by omega) ((hF.2.2 32 14 (by omega)).trans (h.f14.trans (wf_nt hA)))
  · rw [ep] at hp hq
    have h1 : τ.2.2 33 p = some g := h1
    have h2 : τ.2.2 33 q = some g := h2
    rw [hF.2.1] at h1 h2
    exact h.gi hp hq h1 h2
theorem iv_X.txT {A B : am_S} {σ τ : am_M} {l c1 c2 c3 : List Int32} (h : iv_X A σ) (hA : wf_A A) (hnt : s_nt A < 6) (hl : l = c1 ++ c2 ++ c3) (h160 : l.length < 160) (hal : al_X σ τ l (nI c1.length) (nI (c1 ++ c2).length)) (hD : tx_D A B) (hn : B 65 14 = nI (s_nt A + 1)) (hK : tx_K A B (c1, c2, c3)) : iv_X B (am_sI (am_sR (am_sI τ 38 2 0) 37 (s_nt A) (some σ.1.length)) 32 14 (nI (s_nt A + 1))) := by
  subst hl
  obtain ⟨a1, a2, a3, a4, a5, a6, a7, a8⟩ := hal
  obtain ⟨k0, k1, k2, k3, k4⟩ := hK
  have k0 : ∀ i, i < (c1 ++ c2 ++ c3).length → B 75 (200 * s_nt A + i) = (c1 ++ c2 ++ c3).getD i 0 := k0
  have k2 : B 76 (4 * s_nt A + 1) = nI c1.length := k2
  have k3 : B 76 (4 * s_nt A + 2) = nI (c1 ++ c2).length := k3
  have k4 : B 76 (4 * s_nt A + 3) = nI (c1 ++ c2 ++ c3).length := k4
  have h7 := wf_nt6 hA
  have hl := ly_89 h.ly
  have ep : s_np B = s_np A := congrArg sN (tx_Dp hD)
  have et : s_nt B = s_nt A + 1 := (congrArg sN hn).trans (sN_n (by omega))
  have es : s_st B (s_nt A) 3 = (c1 ++ c2 ++ c3).length := (congrArg sN k4).trans (sN_n (by omega))
  have eN : ∀ (x : Nat) (k : Nat × Nat), ([(5, 4), (10, (c1 ++ c2 ++ c3).length), (10, 32)] : List (Nat × Nat))[x]? = some k → τ.1[σ.1.length + x]? = some k := fun x k hx => by
    rw [a1, List.getElem?_append_right (by omega), Nat.add_sub_cancel_left]; exact hx
  refine h.ext hA (fun a k hk => ?_) (fun a k ha hn2 => ?_) (fun a k ha hn1 hn2 => ?_) (tx_DB hD) ?_ ?_ ?_ (fun t ht => ?_) (fun p hp => Or.inl (by rw [ep] at hp; exact hp)) (fun p q g hp hq h1 h2 => ?_)
  · show τ.1[a]? = _
    rw [a1, List.getElem?_append_left (List.getElem?_eq_some_iff.mp hk).1]; exact hk
  · exact (am_un (by omega)).trans ((am_un (by omega)).trans (a2 a k ha (by omega)))
  · exact (am_un (by omega)).trans (a3 a k ha)
  · rw [hD.1]; exact am_ru (by omega) (show (am_sI τ 38 2 0).2.1 38 2 = 0 from am_rs)
  · rw [tx_Dp hD]; exact am_ru (by omega) (show (am_sI τ 38 2 0).2.1 32 12 = _ from am_ru (by omega) ((a2 32 12 (by omega) (by omega)).trans h.f12))
  · rw [hn]; exact am_rs
  · by_cases e : t = s_nt A
    · subst e
      refine Or.inr ⟨σ.1.length, am_us, ⟨Or.inr hl, eN 0 _ rfl, by rw [es]; exact eN 1 _ rfl, eN 2 _ rfl, (am_un (by omega)).trans a6, (am_un (by omega)).trans a7⟩, ?_, ?_, fun k hk => ?_⟩
      · rw [k2]; exact (am_un (by omega)).trans ((am_un (by omega)).trans a4)
      · rw [k3]; exact (am_un (by omega)).trans ((am_un (by omega)).trans a5)
      · rw [es] at hk
        rw [k0 k hk]; exact (am_un (by omega)).trans ((am_un (by omega)).trans (a8 k hk))
    · exact Or.inl (by rw [et] at ht; omega)
  · rw [ep] at hp hq
    have h1 : am_up τ.2.2 37 (s_nt A) (some σ.1.length) 33 p = some g := h1
    have h2 : am_up τ.2.2 37 (s_nt A) (some σ.1.length) 33 q = some g := h2
    rw [am_un (by omega)] at h1 h2
    rw [a3 33 _ (by omega)] at h1 h2
    exact h.gi hp hq h1 h2
set_option maxHeartbeats 400000 in
theorem c_X6_text (G : am_G) (D : Nat) (A : am_S) (σ : am_M) (hA : wf_A A) (hX : iv_X A σ) : am_Mt G (D + 45) mX6_text [.ref 32] σ 3 196 (am_qTx A σ) := by
  have h7 := wf_nt6 hA
  have hl := ly_89 hX.ly
  refine am_of moX6_text (Nat.le_of_ble_eq_true rfl) ?_
  show am_Ev G mX6_text (am_R (D + 45) 3 196) 3 196 (am_qTx A σ) 0 [(0, .ref 32)] [] σ 0 0
  refine ev_aload_n dX6_text_0 rfl rfl ?_
  refine ev_getI (v := nI (s_nt A)) dX6_text_1 fl_X6_81 (ly_k hX.ly 32 rfl) (hX.f14.trans (wf_nt hA)) ?_
  refine ev_bipush (v := 6) dX6_text_4 (by decide) ?_
  refine ev_icmp_lt (tgt := 12) dX6_text_6 (by decide) (fun c1 => ?_) (fun c1 => ?_)
  · have hnt : s_nt A < 6 := (nI_ltI (a := s_nt A) (b := 6) (by omega) (by omega)).mp c1
    refine ev_aload_n dX6_text_12 rfl rfl ?_
    refine ev_getR (b := 38) dX6_text_13 fl_X6_34 (ly_k hX.ly 32 rfl) (ly_r hX.ly 5 rfl) ?_
    refine ev_callV (as := []) (st := []) dX6_text_16 mfX4_read lk_X6_74 (ly_k hX.ly 38 rfl) (by decide) rfl (c_X4_read G D (A 74) (s_tp A) σ (hX.tb hA)) rfl rfl (Nat.le_of_ble_eq_true rfl) (am_hR (by omega) (by decide)) ⟨Nat.le_of_ble_eq_true rfl, Nat.le_of_ble_eq_true rfl⟩ ?_
    rintro _ τ (⟨t0, rfl, hF, hp⟩ | ⟨t1, rfl, hal, hlen⟩)
    · have hy : ly_ok τ := ly_ext hX.ly (fun a k hk => by rw [hF.1]; exact hk) (fun a k _ _ _ => by rw [hF.2.1])
      refine ev_astore_nN (lv' := [(0, .ref 32), (1, .null)]) dX6_text_19 rfl (by decide) rfl ?_
      refine ev_aload_n dX6_text_20 rfl rfl ?_
      refine ev_getR (b := 38) dX6_text_21 fl_X6_34 (ly_k hy 32 rfl) (ly_r hy 5 rfl) ?_
      refine ev_getI (v := nI (tx (tx_n A)).2.2) dX6_text_24 fl_X6_105 (ly_k hy 38 rfl) hp ?_
      refine ev_istore_n (lv' := [(0, .ref 32), (1, .null), (2, .int (nI (tx (tx_n A)).2.2))]) dX6_text_27 rfl (by decide) rfl ?_
      refine ev_aload_n dX6_text_28 rfl rfl ?_
      refine ev_getR (b := 38) dX6_text_29 fl_X6_34 (ly_k hy 32 rfl) (ly_r hy 5 rfl) ?_
      refine ev_callV (as := []) (st := []) dX6_text_32 mfX4_clear lk_X6_78 (ly_k hy 38 rfl) (by decide) rfl (c_X4_clear G D τ (ly_k hy 38 rfl)) rfl rfl (Nat.le_of_ble_eq_true rfl) (am_hR (by omega) (by decide)) ⟨Nat.le_of_ble_eq_true rfl, Nat.le_of_ble_eq_true rfl⟩ ?_
      rintro _ _ ⟨rfl, rfl⟩
      refine ev_aload_nN dX6_text_35 rfl rfl ?_
      refine ev_ifnonnullN dX6_text_36 ?_
      refine ev_bipush (v := (-100)) dX6_text_39 (by decide) ?_
      refine ev_iload_n dX6_text_41 rfl rfl ?_
      refine ev_isub (v := -100 - nI (tx (tx_n A)).2.2) dX6_text_42 rfl ?_
      refine ev_reti dX6_text_43 rfl (Nat.le_of_ble_eq_true rfl) (Nat.le_of_ble_eq_true rfl) ⟨_, rfl, fun A' x' hq => ?_, fun a h1 h2 => ?_, hy⟩
      · rcases hq with ⟨e, -⟩ | ⟨-, hD, ⟨-, e1, e2⟩ | ⟨e, -⟩⟩
        · omega
        · exact ⟨e1, hX.txF hA hF hD e2⟩
        · rw [show (tx (tx_n A)).1 = false from t0] at e; cases e
      · funext k
        exact (am_un (by omega)).trans (hF.2.2 a k (by omega))
    · have hy : ly_ok τ := ly_ext hX.ly (fun a k hk => by rw [hal.1, List.getElem?_append_left (List.getElem?_eq_some_iff.mp hk).1]; exact hk) (fun a k h1 _ _ => hal.2.2.1 a k (by omega))
      have hx5 : τ.1[σ.1.length]? = some (5, 4) := by rw [hal.1, List.getElem?_append_right (Nat.le_refl _), Nat.sub_self]; rfl
      refine ev_astore_n (lv' := [(0, .ref 32), (1, .ref σ.1.length)]) dX6_text_19 rfl (by decide) rfl ?_
      refine ev_aload_n dX6_text_20 rfl rfl ?_
      refine ev_getR (b := 38) dX6_text_21 fl_X6_34 (ly_k hy 32 rfl) (ly_r hy 5 rfl) ?_
      refine ev_getI (v := τ.2.1 38 4) dX6_text_24 fl_X6_105 (ly_k hy 38 rfl) rfl ?_
      refine ev_istore_n (lv' := [(0, .ref 32), (1, .ref σ.1.length), (2, .int (τ.2.1 38 4))]) dX6_text_27 rfl (by decide) rfl ?_
      refine ev_aload_n dX6_text_28 rfl rfl ?_
      refine ev_getR (b := 38) dX6_text_29 fl_X6_34 (ly_k hy 32 rfl) (ly_r hy 5 rfl) ?_
      refine ev_callV (as := []) (st := []) dX6_text_32 mfX4_clear lk_X6_78 (ly_k hy 38 rfl) (by decide) rfl (c_X4_clear G D τ (ly_k hy 38 rfl)) rfl rfl (Nat.le_of_ble_eq_true rfl) (am_hR (by omega) (by decide)) ⟨Nat.le_of_ble_eq_true rfl, Nat.le_of_ble_eq_true rfl⟩ ?_
      rintro _ _ ⟨rfl, rfl⟩
      have h14 : τ.2.1 32 14 = nI (s_nt A) := (hal.2.1 32 14 (by omega) (by omega)).trans (hX.f14.trans (wf_nt hA))
      refine ev_aload_n dX6_text_35 rfl rfl ?_
      refine ev_ifnonnullR (tgt := 44) dX6_text_36 (by decide) ?_
      refine ev_aload_n dX6_text_44 rfl rfl ?_
      refine ev_getR (b := 37) dX6_text_45 fl_X6_27 (ly_k hy 32 rfl) (ly_r hy 4 rfl) ?_
      refine ev_aload_n dX6_text_48 rfl rfl ?_
      refine ev_getI (v := nI (s_nt A)) dX6_text_49 fl_X6_81 (ly_k hy 32 rfl) (am_ru (by omega) h14) ?_
      refine ev_aload_n dX6_text_52 rfl rfl ?_
      refine ev_aast dX6_text_53 (ly_k hy 37 rfl) (by decide) hx5 (am_ixn hnt (by decide)) ?_
      refine ev_aload_n dX6_text_54 rfl rfl ?_
      refine ev_dup dX6_text_55 rfl ?_
      refine ev_getI (v := nI (s_nt A)) dX6_text_56 fl_X6_81 (ly_k hy 32 rfl) (show (am_sI τ 38 2 0).2.1 32 14 = _ from am_ru (by omega) h14) ?_
      refine ev_iconst (v := 1) dX6_text_59 (by decide) ?_
      refine ev_iadd (v := nI (s_nt A + 1)) dX6_text_60 (nI_1 _) ?_
      refine ev_putI dX6_text_61 fl_X6_81 rfl rfl (ly_k hy 32 rfl) ?_
      refine ev_aload_n dX6_text_64 rfl rfl ?_
      refine ev_getI (v := nI (s_nt A + 1)) dX6_text_65 fl_X6_81 (ly_k hy 32 rfl) am_rs ?_
      refine ev_iconst (v := 1) dX6_text_68 (by decide) ?_
      refine ev_isub (v := nI (s_nt A)) dX6_text_69 (nI_pred _) ?_
      refine ev_reti dX6_text_70 rfl (Nat.le_of_ble_eq_true rfl) (Nat.le_of_ble_eq_true rfl) ⟨_, rfl, fun A' x' hq => ?_, fun a h1 h2 => ?_, ly_ext hy (fun a k hk => hk) (fun a k h1 h2 h3 => am_un (by omega))⟩
      · rcases hq with ⟨e, -⟩ | ⟨-, hD, ⟨e, -⟩ | ⟨-, e1, e2, e3⟩⟩
        · omega
        · rw [show (tx (tx_n A)).1 = true from t1] at e; cases e
        · exact ⟨e1, hX.txT hA hnt rfl hlen hal hD e2 e3⟩
      · funext k
        exact (am_un (by omega)).trans ((am_un (by omega)).trans (hal.2.1 a k (by omega) (by omega)))
  · have hnt : s_nt A = 6 := by
      have := (Nat.not_lt.mp (fun z => c1 ((nI_ltI (a := s_nt A) (b := 6) (by omega) (by omega)).mpr z)))
      omega
    refine ev_bipush (v := (-4)) dX6_text_9 (by decide) ?_
    refine ev_reti dX6_text_11 rfl (Nat.zero_le _) (Nat.zero_le _) ⟨_, rfl, fun A' x' hq => ?_, fun a h1 h2 => rfl, hX.ly⟩
    rcases hq with ⟨-, e1, e2⟩ | ⟨e, -⟩
    · subst e2; exact ⟨e1, hX⟩
    · omega
