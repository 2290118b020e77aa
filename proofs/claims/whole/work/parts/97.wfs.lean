/-! every answer keeps what holds -/
theorem wf_mk {A B : am_S} (h : wf_A A) (np nq tp : Nat) (e65 : ∀ k, k ≠ 0 → k ≠ 6 → k ≠ 11 → B 65 k = A 65 k) (h0 : B 65 0 = nI np ∧ np ≤ 7 ∧ s_np A ≤ np) (h6 : B 65 6 = nI nq ∧ nq ≤ 8 ∧ s_nq A ≤ nq) (h11 : B 65 11 = nI tp ∧ tp ≤ 160) (hp : ∀ p, p < np → wf_p B p) (hq : ∀ q, q < nq → wf_q B q) (hj : ∀ t, t < 3 → wf_j (B 73 t)) (hb : ∀ i, i < tp → am_rg (B 74 i) 256) (eF : ∀ a, 75 ≤ a → a ≤ 81 → B a = A a) : wf_A B := by
  obtain ⟨g1, g2, g3, g4, g5, g6, g7, g8, g9, g10, g11, g12⟩ := h
  have n0 : s_np B = np := (congrArg sN h0.1).trans (sN_n (by omega))
  have n1 : s_nq B = nq := (congrArg sN h6.1).trans (sN_n (by omega))
  have n2 : s_tp B = tp := (congrArg sN h11.1).trans (sN_n (by omega))
  have n3 : s_nt B = s_nt A := congrArg sN (e65 14 (by decide) (by decide) (by decide))
  have n4 : s_rl B = s_rl A := congrArg sN (e65 15 (by decide) (by decide) (by decide))
  refine ⟨?_, ?_, ?_, ?_, ?_, ?_, ?_, hj, ?_, ?_, ?_, ?_⟩
  · rw [n0]; exact ⟨h0.1, h0.2.1⟩
  · rw [n1]; exact ⟨h6.1, h6.2.1⟩
  · rw [n2]; exact h11
  · rw [n3, e65 14 (by decide) (by decide) (by decide)]; exact g4
  · rw [n3, n4, e65 15 (by decide) (by decide) (by decide)]; exact g5
  · rw [n0]; exact hp
  · rw [n1]; exact hq
  · rw [n2]; exact hb
  · rw [n3]
    intro t ht
    unfold wf_t s_cs s_st s_sl
    rw [eF 75 (by decide) (by decide), eF 76 (by decide) (by decide)]
    exact g10 t ht
  · unfold wf_i
    rw [n0, n1, n3, e65 16 (by decide) (by decide) (by decide), e65 17 (by decide) (by decide) (by decide), e65 18 (by decide) (by decide) (by decide), e65 19 (by decide) (by decide) (by decide), eF 77 (by decide) (by decide), eF 78 (by decide) (by decide), eF 79 (by decide) (by decide)]
    rcases g11 with z | ⟨z1, ⟨a, a1, a2⟩, ⟨c, c1, c2⟩, z4, z6⟩
    · exact Or.inl z
    · exact Or.inr ⟨z1, ⟨a, a1, by omega⟩, ⟨c, c1, by omega⟩, z4, z6⟩
  · intro s hs
    unfold wf_s
    rw [eF 80 (by decide) (by decide), eF 81 (by decide) (by decide)]
    exact g12 s hs
/-- a state of that kind, words and all -/
def wz_A (A B : am_S) : Prop := wf_A B ∧ B 84 = A 84
theorem wz_rf {A : am_S} (h : wf_A A) : wz_A A A := ⟨h, rfl⟩
theorem wz_force {A : am_S} {t : Int32} (h : wf_A A) : wz_A A (sp_force A t).2 := by
  have h6 := wf_nt6 h
  unfold sp_force
  split
  · rename_i q
    dsimp only
    exact ⟨wf_15 h (by obtain ⟨k, hk, e⟩ := (am_inR (by omega)).mp q; exact ⟨k, hk, e⟩), funext fun _ => am_ua (by decide)⟩
  · exact wz_rf h
theorem wz_learn {A : am_S} {p i v : Int32} (h : wf_A A) : wz_A A (sp_learn A p i v).2 := ⟨wf_learn h, funext fun _ => sp_learn_x (by decide)⟩
theorem wz_sit {A : am_S} {p t : Int32} (h : wf_A A) : wz_A A (sp_sit A p t).2 := by
  unfold sp_sit
  split
  · split
    · rename_i q
      dsimp only
      exact ⟨wf_69 h (am_sbR.mp q), funext fun _ => am_ua (by decide)⟩
    · exact wz_rf h
  · exact wz_rf h
theorem wz_question {A : am_S} {i d : Int32} (h : wf_A A) : wz_A A (sp_question A i d).2 := by
  have h8 := wf_nq8 h
  unfold sp_question
  split
  · rename_i q
    rw [Bool.and_eq_true] at q
    split
    · exact wz_rf h
    · rename_i q8
      dsimp only
      refine ⟨wf_mk h (s_np A) (s_nq A + 1) (s_tp A) (fun k h0 h1 h2 => ?_) ⟨?_, wf_np7 h, Nat.le_refl _⟩ ⟨am_us, by omega, by omega⟩ ⟨?_, wf_tp160 h⟩ (fun p hp => ?_) (fun y hy => ?_) (fun t ht => ?_) (fun y hy => ?_) (fun a ha1 ha2 => ?_), ?_⟩
      · exact (am_uk h1).trans ((am_ua (by decide)).trans (am_ua (by decide)))
      · exact (am_uk (by decide)).trans ((am_ua (by decide)).trans ((am_ua (by decide)).trans (wf_np h)))
      · exact (am_uk (by decide)).trans ((am_ua (by decide)).trans ((am_ua (by decide)).trans (wf_tp h)))
      · unfold wf_p
        rw [am_ua (by decide), am_ua (by decide), am_ua (by decide), am_ua (by decide), am_ua (by decide), am_ua (by decide), am_ua (by decide), am_ua (by decide), am_ua (by decide), am_ua (by decide), am_ua (by decide), am_ua (by decide)]
        refine ⟨(wf_pp h p hp).1, (wf_pp h p hp).2.1, (wf_pp h p hp).2.2.1, (wf_pp h p hp).2.2.2.1, fun j hj => ?_⟩
        rw [am_ua (by decide), am_ua (by decide), am_ua (by decide)]
        exact (wf_pp h p hp).2.2.2.2 j hj
      · unfold wf_q
        have z1 : (am_up (am_up (am_up A 71 (s_nq A) i) 72 (s_nq A) d) 65 6 (nI (s_nq A + 1))) 71 y = am_up A 71 (s_nq A) i 71 y := (am_ua (by decide)).trans (am_ua (by decide))
        have z2 : (am_up (am_up (am_up A 71 (s_nq A) i) 72 (s_nq A) d) 65 6 (nI (s_nq A + 1))) 72 y = am_up (am_up A 71 (s_nq A) i) 72 (s_nq A) d 72 y := am_ua (by decide)
        rw [z1, z2]
        by_cases e : y = s_nq A
        · subst e
          rw [am_us, am_us]
          exact ⟨(am_inR (by decide)).mp q.1, (am_inR (by decide)).mp q.2⟩
        · rw [am_uk e, am_uk e, am_ua (by decide)]
          exact wf_qq h y (by omega)
      · rw [am_ua (by decide), am_ua (by decide), am_ua (by decide)]; exact wf_jj h t ht
      · rw [am_ua (by decide), am_ua (by decide), am_ua (by decide)]; exact wf_by h y hy
      · funext k
        exact (am_ua (by omega)).trans ((am_ua (by omega)).trans (am_ua (by omega)))
      · funext k
        exact (am_ua (by decide)).trans ((am_ua (by decide)).trans (am_ua (by decide)))
  · exact wz_rf h
theorem wz_lay {A : am_S} {t q : Int32} (h : wf_A A) : wz_A A (sp_lay A t q).2 := by
  have h8 := wf_nq8 h
  unfold sp_lay
  split
  · split
    · rename_i z
      rw [Bool.or_eq_true, decide_eq_true_eq] at z
      have hj : wf_j q := z.imp id (fun y => by obtain ⟨k, hk, e⟩ := (am_inR (by omega)).mp y; exact ⟨k, by omega, e⟩)
      dsimp only
      refine ⟨wf_mk h (s_np A) (s_nq A) (s_tp A) (fun k _ _ _ => am_ua (by decide)) ⟨(am_ua (by decide)).trans (wf_np h), wf_np7 h, Nat.le_refl _⟩ ⟨(am_ua (by decide)).trans (wf_nq h), wf_nq8 h, Nat.le_refl _⟩ ⟨(am_ua (by decide)).trans (wf_tp h), wf_tp160 h⟩ (fun p hp => ?_) (fun y hy => ?_) (fun y hy => ?_) (fun y hy => ?_) (fun a ha1 ha2 => funext fun _ => am_ua (by omega)), funext fun _ => am_ua (by decide)⟩
      · exact wf_pp h p hp
      · exact wf_qq h y hy
      · by_cases e : y = sN t
        · rw [e, am_us]; exact hj
        · rw [am_uk e]; exact wf_jj h y hy
      · rw [am_ua (by decide)]; exact wf_by h y hy
    · exact wz_rf h
  · exact wz_rf h
theorem am_km {km : Int32} (h : am_rg km 60) : am_rg (km / 10) 6 ∧ am_rg (km - km / 10 * 10) 10 := by
  obtain ⟨k, hk, rfl⟩ := h
  have : ∀ k, k < 60 → nI k / 10 = nI (k / 10) ∧ nI k - nI k / 10 * 10 = nI (k % 10) := by decide
  obtain ⟨e1, e2⟩ := this k hk
  rw [e2, e1]
  exact ⟨⟨k / 10, by omega, rfl⟩, ⟨k % 10, by omega, rfl⟩⟩
theorem wz_come {A : am_S} {km l x : Int32} (h : wf_A A) : wz_A A (sp_come A km l x).2 := by
  have h7 := wf_np7 h
  unfold sp_come
  split
  · rename_i q
    rw [Bool.and_eq_true, Bool.and_eq_true] at q
    split
    · exact wz_rf h
    · rename_i q7
      obtain ⟨v0, v6, v8, v7, v9, vj⟩ := s_cm_v (A := A) (n := s_np A) (km := km) (l := l) (x := x)
      obtain ⟨k1, k2⟩ := am_km ((am_inR (by decide)).mp q.1)
      dsimp only
      refine ⟨wf_mk h (s_np A + 1) (s_nq A) (s_tp A) (fun k h0 h1 h2 => s_cm_x (by omega) (by omega) (by omega)) ⟨v0, by omega, by omega⟩ ⟨(s_cm_x (by omega) (by omega) (by omega)).trans (wf_nq h), wf_nq8 h, Nat.le_refl _⟩ ⟨(s_cm_x (by omega) (by omega) (by omega)).trans (wf_tp h), wf_tp160 h⟩ (fun p hp => ?_) (fun y hy => ?_) (fun y hy => ?_) (fun y hy => ?_) (fun a ha1 ha2 => funext fun k => s_cm_x (by omega) (by omega) (by omega)), funext fun k => s_cm_x (by omega) (by omega) (by omega)⟩
      · by_cases e : p = s_np A
        · subst e
          refine ⟨?_, ?_, ?_, ?_, fun j hj => ?_⟩
          · rw [v6]; exact k1
          · rw [v7]; exact (am_inR (by decide)).mp q.2.1
          · rw [v8]; exact k2
          · rw [v9]; exact am_sbR.mp q.2.2
          · rw [vj j hj]; exact ⟨0, by decide, rfl⟩
        · obtain ⟨p1, p2, p3, p4, p5⟩ := wf_pp h p (by omega)
          refine ⟨?_, ?_, ?_, ?_, fun j hj => ?_⟩
          · rw [s_cm_x (by omega) (by omega) (by omega)]; exact p1
          · rw [s_cm_x (by omega) (by omega) (by omega)]; exact p2
          · rw [s_cm_x (by omega) (by omega) (by omega)]; exact p3
          · rw [s_cm_x (by omega) (by omega) (by omega)]; exact p4
          · rw [s_cm_x (by omega) (by omega) (by omega)]; exact p5 j hj
      · unfold wf_q
        rw [s_cm_x (by omega) (by omega) (by omega), s_cm_x (by omega) (by omega) (by omega)]; exact wf_qq h y hy
      · rw [s_cm_x (by omega) (by omega) (by omega)]; exact wf_jj h y hy
      · rw [s_cm_x (by omega) (by omega) (by omega)]; exact wf_by h y hy
  · exact wz_rf h
theorem s_fm_84 {A : am_S} {s T k : Nat} : ∀ n, s_fm A s T n 84 k = A 84 k
  | 0 => (am_ua (by decide)).trans (am_ua (by decide))
  | n + 1 => (am_ua (by decide)).trans (s_fm_84 n)
theorem wz_film {A : am_S} {s t : Int32} (h : wf_A A) : wz_A A (sp_film A s t).2 := by
  unfold sp_film
  (repeat' split) <;> (try dsimp only) <;> first | exact wz_rf h | exact ⟨wf_fm h _, funext fun _ => s_fm_84 _⟩
theorem wz_image {A : am_S} (h : wf_A A) : wz_A A (sp_image A).2 := (show wz_A A (s_im A) from ⟨wf_im h, funext fun k => (s_im_x (by decide) (by decide) (by decide)).trans (s_i0_x (by omega))⟩)
theorem wz_back {A : am_S} (h : wf_A A) : wz_A A (sp_back A).2 := by
  unfold sp_back
  split
  · exact wz_rf h
  · rename_i q
    dsimp only
    exact ⟨wf_bk h q, funext fun k => (s_bk_x (by decide) (by decide) (by decide)).trans (s_b0_x (by omega))⟩
theorem s_s0_84 {A : am_S} {s k : Nat} : ∀ n, s_s0 A s n 84 k = A 84 k
  | 0 => rfl
  | n + 1 => (am_ua (by decide)).trans (s_s0_84 n)
theorem wz_sheet {A : am_S} {s b n : Int32} (h : wf_A A) : wz_A A (sp_sheet A s b n).2 := by
  unfold sp_sheet
  split
  · rename_i q
    rw [Bool.and_eq_true, Bool.and_eq_true, Bool.or_eq_true, decide_eq_true_eq, decide_eq_true_eq] at q
    split
    · exact wz_rf h
    · rename_i z
      dsimp only
      refine ⟨wf_s0 (wf_81 (wf_80 h (am_sbR.mp q.1.2)) ?_) 40, funext fun k => (s_s0_84 40).trans ((am_ua (by decide)).trans (am_ua (by decide)))⟩
      by_cases e : b = -1
      · rw [if_pos e]; exact ⟨0, by decide, rfl⟩
      · rw [if_neg e]
        exact am_rg3 (c := 40) (by decide) (fun y => z ⟨e, y⟩) (q.2.resolve_left e)
  · exact wz_rf h
theorem wz_cell {A : am_S} {s i v : Int32} (h : wf_A A) : wz_A A (sp_cell A s i v).2 := by
  unfold sp_cell
  (repeat' split) <;> (try dsimp only) <;> first | exact wz_rf h | exact ⟨wf_82 h, funext fun _ => am_ua (by decide)⟩
theorem wz_copy {A : am_S} {s i o j n : Int32} (h : wf_A A) : wz_A A (sp_copy A s i o j n).2 := by
  unfold sp_copy
  (repeat' split) <;> (try dsimp only) <;> first | exact wz_rf h | exact ⟨wf_mv h, funext fun k => if_neg (fun z => absurd z.1 (by decide))⟩
theorem wz_depthsBy {A : am_S} {s b f n : Int32} (h : wf_A A) : wz_A A (sp_depthsBy A s b f n).2 := by
  unfold sp_depthsBy
  (repeat' split) <;> (try dsimp only) <;> first | exact wz_rf h | exact ⟨wf_ta h _, funext fun _ => s_ta_x (by decide)⟩
theorem s_fd_x {A : am_S} {g : Nat → Int32} {a k : Nat} (h1 : a ≠ 74) (h2 : ¬ (a = 65 ∧ k = 11)) : ∀ {n : Nat}, s_fd A g n a k = A a k
  | 0 => rfl
  | n + 1 => (am_un (by omega)).trans ((am_ua h1).trans (s_fd_x h1 h2))
theorem s_fd_v {A : am_S} {g : Nat → Int32} (h : A 65 11 = nI (s_tp A)) : ∀ {n : Nat}, s_fd A g n 65 11 = nI (s_tp A + n) ∧ ∀ i, s_fd A g n 74 i = if s_tp A ≤ i ∧ i < s_tp A + n then g (i - s_tp A) else A 74 i := by
  intro n
  induction n with
  | zero => exact ⟨h, fun i => by rw [if_neg (by omega)]; rfl⟩
  | succ n ih =>
    refine ⟨am_us, fun i => ?_⟩
    refine (am_ua (by decide)).trans ?_
    by_cases e : i = s_tp A + n
    · subst e
      rw [am_us, if_pos (by omega), Nat.add_sub_cancel_left]
    · rw [am_uk e, ih.2 i]
      by_cases c : s_tp A ≤ i ∧ i < s_tp A + n
      · rw [if_pos c, if_pos (by omega)]
      · rw [if_neg c, if_neg (by omega)]
theorem wz_feed {A : am_S} {n a b c d e : Int32} (h : wf_A A) : wz_A A (sp_feed A n a b c d e).2 := by
  unfold sp_feed
  split
  · rename_i q
    simp only [Bool.and_eq_true, decide_eq_true_eq] at q
    obtain ⟨⟨q1, q2⟩, qa, qb, qc, qd, qe⟩ := q
    split
    · exact wz_rf h
    · rename_i z
      have hv := s_fd_v (A := A) (g := s_fb a b c d e) (wf_tp h) (n := sN n)
      have hg : ∀ i, am_rg (s_fb a b c d e i) 256 := fun i => by
        unfold s_fb
        split
        · exact (am_inR (by decide)).mp qa
        · exact (am_inR (by decide)).mp qb
        · exact (am_inR (by decide)).mp qc
        · exact (am_inR (by decide)).mp qd
        · exact (am_inR (by decide)).mp qe
      dsimp only
      refine ⟨wf_mk h (s_np A) (s_nq A) (s_tp A + sN n) (fun k h0 h1 h2 => s_fd_x (by decide) (by omega)) ⟨(s_fd_x (by decide) (by omega)).trans (wf_np h), wf_np7 h, Nat.le_refl _⟩ ⟨(s_fd_x (by decide) (by omega)).trans (wf_nq h), wf_nq8 h, Nat.le_refl _⟩ ⟨hv.1, by omega⟩ (fun p hp => ?_) (fun y hy => ?_) (fun y hy => ?_) (fun y hy => ?_) (fun a ha1 ha2 => funext fun k => s_fd_x (by omega) (by omega)), funext fun k => s_fd_x (by decide) (by omega)⟩
      · obtain ⟨p1, p2, p3, p4, p5⟩ := wf_pp h p hp
        refine ⟨?_, ?_, ?_, ?_, fun j hj => ?_⟩
        · rw [s_fd_x (by decide) (by omega)]; exact p1
        · rw [s_fd_x (by decide) (by omega)]; exact p2
        · rw [s_fd_x (by decide) (by omega)]; exact p3
        · rw [s_fd_x (by decide) (by omega)]; exact p4
        · rw [s_fd_x (by decide) (by omega)]; exact p5 j hj
      · unfold wf_q
        rw [s_fd_x (by decide) (by omega), s_fd_x (by decide) (by omega)]; exact wf_qq h y hy
      · rw [s_fd_x (by decide) (by omega)]; exact wf_jj h y hy
      · rw [hv.2 y]
        by_cases c : s_tp A ≤ y ∧ y < s_tp A + sN n
        · rw [if_pos c]; exact hg _
        · rw [if_neg c]; exact wf_by h y (by omega)
  · exact wz_rf h
theorem wz_text {A A' : am_S} {x : Int32} (h : wf_A A) (hq : tx_Q A A' x) : wz_A A A' := ⟨wf_tx h hq, by
  rcases hq with ⟨-, -, rfl⟩ | ⟨-, hD, -⟩
  · rfl
  · exact funext fun k => hD.2 84 k (by omega) (by omega) (by omega)⟩
