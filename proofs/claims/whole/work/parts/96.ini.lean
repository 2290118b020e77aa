/-! the first text -/
/-- the letters of the first text -/
def b0_l : List Int32 := [119, 101, 105, 103, 104, 116, 32, 108, 111, 117, 100, 32, 42, 32, 50, 32, 43, 32, 100, 101, 112, 116, 104, 32, 59, 32, 112, 111, 105, 110, 116, 115, 32, 49, 32, 59, 32, 104, 105, 114, 101, 115, 32, 100, 101, 112, 116, 104, 32, 59]
def b0_T (k : Nat) : Int32 := b0_l.getD k 0
theorem tx_0 : (tx (lx_nx b0_T 50)).1 = true := by decide +kernel
theorem tx_0n : ((tx (lx_nx b0_T 50)).2.1.1 ++ (tx (lx_nx b0_T 50)).2.1.2.1 ++ (tx (lx_nx b0_T 50)).2.1.2.2).length = 7 := by decide +kernel
/-! what is read may stand -/
theorem tx_pW {b : Nat → Int32} {n : Nat} {key : Int32} {t : lx_T} (hn : n ≤ 160) (hK : lx_K n t) (h : (tx_p (lx_nx b n) key t).1 = true) : wf_d (tx_p (lx_nx b n) key t).2.1 0 = some 1 := by
  by_cases c : t.1 = key
  · by_cases c2 : ((rd (lx_nx b n) 5).2.2 (lx_nx b n t.2.2)).1 = true ∧ ((rd (lx_nx b n) 5).2.2 (lx_nx b n t.2.2)).2.2.1 = -18
    · rw [tx_pT c c2.1 c2.2]
      obtain ⟨⟨-, -, hE⟩, -⟩ := rd_all (n := n) hn (nx_Y (b := b)) 5 (Nat.le_refl _)
      exact ((hE _ (nx_Y (b := b) (n := n) t.2.2 hK.1.2.1).1).2.2 c2.1).2.2 0 (by decide)
    · rw [tx_pF c c2] at h; cases h
  · rw [tx_pN c] at h; cases h
theorem tx_W {b : Nat → Int32} {n : Nat} (hn : n ≤ 160) (h : (tx (lx_nx b n)).1 = true) : wf_d (tx (lx_nx b n)).2.1.1 0 = some 1 ∧ wf_d (tx (lx_nx b n)).2.1.2.1 0 = some 1 ∧ wf_d (tx (lx_nx b n)).2.1.2.2 0 = some 1 ∧ ((tx (lx_nx b n)).2.1.1 ++ (tx (lx_nx b n)).2.1.2.1 ++ (tx (lx_nx b n)).2.1.2.2).length < 160 := by
  have hK0 := (nx_Y (b := b) (n := n) 0 (Nat.zero_le _)).1
  cases e1 : (tx_p (lx_nx b n) (-19) (lx_nx b n 0)).1 with
  | false => rw [(tx_1F (pr3 e1)).1] at h; cases h
  | true =>
    have x1 := tx_1T (pr3 e1)
    obtain ⟨b1, l1, m1, n1⟩ := tx_pB hn (by decide) hK0 e1
    have hK1 := nx_Y (b := b) (n := n) _ b1.1.2.1
    cases e2 : (tx_p (lx_nx b n) (-20) (lx_nx b n (tx_p (lx_nx b n) (-19) (lx_nx b n 0)).2.2.2.2)).1 with
    | false => rw [(tx_2F x1 (pr3 e2)).1] at h; cases h
    | true =>
      have x2 := tx_2T x1 (pr3 e2)
      obtain ⟨b2, l2, m2, n2⟩ := tx_pB hn (by decide) hK1.1 e2
      have hK2 := nx_Y (b := b) (n := n) _ b2.1.2.1
      cases e3 : (tx_p (lx_nx b n) (-21) (lx_nx b n (tx_p (lx_nx b n) (-20) (lx_nx b n (tx_p (lx_nx b n) (-19) (lx_nx b n 0)).2.2.2.2)).2.2.2.2)).1 with
      | false => rw [(tx_3F x2 (pr3 e3)).1] at h; cases h
      | true =>
        obtain ⟨b3, l3, m3, n3⟩ := tx_pB hn (by decide) hK2.1 e3
        have q1 := hK1.2
        have q2 := hK2.2
        by_cases c4 : (lx_nx b n (tx_p (lx_nx b n) (-21) (lx_nx b n (tx_p (lx_nx b n) (-20) (lx_nx b n (tx_p (lx_nx b n) (-19) (lx_nx b n 0)).2.2.2.2)).2.2.2.2)).2.2.2.2).1 = -22
        · have x4 := tx_4T x2 (pr3 e3) c4
          rw [x4.2]
          refine ⟨tx_pW hn hK0 e1, tx_pW hn hK1.1 e2, tx_pW hn hK2.1 e3, ?_⟩
          rw [len_a, len_a]
          dsimp only
          omega
        · rw [(tx_4F x2 (pr3 e3) c4).1] at h; cases h
theorem sl_eq {A : am_S} {t s e : Nat} {l : List Int32} (h : ∀ i, i < l.length → A 75 (200 * t + i) = l.getD i 0) (he : e ≤ l.length) : s_sl A t s e = (l.drop s).take (e - s) := by
  unfold s_sl
  apply List.ext_getElem?
  intro i
  rw [List.getElem?_map, List.getElem?_take]
  by_cases c : i < e - s
  · rw [if_pos c, List.getElem?_range' c, List.getElem?_drop, List.getElem?_eq_getElem (by omega)]
    simp only [Option.map_some, Nat.one_mul]
    rw [h (s + i) (by omega), List.getD_eq_getElem?_getD, List.getElem?_eq_getElem (by omega)]
    rfl
  · rw [if_neg c, List.getElem?_eq_none (by rw [List.length_range']; omega)]
    rfl
theorem wt_new {A A' : am_S} {c : List Int32 × List Int32 × List Int32} (hK : tx_K A A' c) (h1 : wf_d c.1 0 = some 1) (h2 : wf_d c.2.1 0 = some 1) (h3 : wf_d c.2.2 0 = some 1) (h160 : (c.1 ++ c.2.1 ++ c.2.2).length < 160) : wf_t A' (s_nt A) := by
  obtain ⟨c1, c2, c3⟩ := c
  obtain ⟨k0, k1, k2, k3, k4⟩ := hK
  have k0 : ∀ i, i < (c1 ++ c2 ++ c3).length → A' 75 (200 * s_nt A + i) = (c1 ++ c2 ++ c3).getD i 0 := k0
  have k2 : A' 76 (4 * s_nt A + 1) = nI c1.length := k2
  have k3 : A' 76 (4 * s_nt A + 2) = nI (c1 ++ c2).length := k3
  have k4 : A' 76 (4 * s_nt A + 3) = nI (c1 ++ c2 ++ c3).length := k4
  have h160 : (c1 ++ c2 ++ c3).length < 160 := h160
  have hl := h160
  rw [len_a, len_a] at hl
  have e0 : s_st A' (s_nt A) 0 = 0 := (congrArg sN k1).trans rfl
  have e1 : s_st A' (s_nt A) 1 = c1.length := (congrArg sN k2).trans (sN_n (by omega))
  have e2 : s_st A' (s_nt A) 2 = c1.length + c2.length := (congrArg sN k3).trans (by rw [len_a]; exact sN_n (by omega))
  have e3 : s_st A' (s_nt A) 3 = c1.length + c2.length + c3.length := (congrArg sN k4).trans (by rw [len_a, len_a]; exact sN_n (by omega))
  refine ⟨k1, fun part hp => ?_⟩
  rcases (show part = 0 ∨ part = 1 ∨ part = 2 by omega) with rfl | rfl | rfl
  · refine ⟨by rw [e1]; exact k2, by rw [e0]; exact Nat.zero_le _, by rw [e1]; omega, ?_⟩
    unfold s_cs
    rw [e0, e1, sl_eq k0 (by rw [len_a, len_a]; omega), List.drop_zero, Nat.sub_zero, List.append_assoc, List.take_left]
    exact h1
  · refine ⟨by rw [e2, ← len_a]; exact k3, by rw [e1, e2]; omega, by rw [e2]; omega, ?_⟩
    unfold s_cs
    rw [e1, e2, sl_eq k0 (by rw [len_a, len_a]; omega), List.append_assoc, List.drop_left, Nat.add_sub_cancel_left, List.take_left]
    exact h2
  · refine ⟨by rw [e3, ← len_a, ← len_a]; exact k4, by rw [e2, e3]; omega, by rw [e3]; omega, ?_⟩
    unfold s_cs
    rw [e2, e3, sl_eq k0 (by rw [len_a, len_a]; omega), ← len_a, List.drop_left, Nat.add_sub_cancel_left, List.take_length]
    exact h3
theorem wt_cg {A A' : am_S} {t : Nat} (h6 : ∀ i, i < 4 → A' 76 (4 * t + i) = A 76 (4 * t + i)) (h5 : ∀ k, k < 160 → A' 75 (200 * t + k) = A 75 (200 * t + k)) (h : wf_t A t) : wf_t A' t := by
  have es : ∀ i, i < 4 → s_st A' t i = s_st A t i := fun i hi => congrArg sN (h6 i hi)
  obtain ⟨h0, hp⟩ := h
  refine ⟨(h6 0 (by decide)).trans h0, fun part hpt => ?_⟩
  obtain ⟨p1, p2, p3, p4⟩ := hp part hpt
  have ec : s_cs A' t part = s_cs A t part := by
    unfold s_cs s_sl
    rw [es part (by omega), es (part + 1) (by omega)]
    refine List.map_congr_left (fun k hk => h5 k ?_)
    have := List.mem_range'_1.mp hk
    omega
  refine ⟨?_, by rw [es part (by omega), es (part + 1) (by omega)]; exact p2, by rw [es (part + 1) (by omega)]; exact p3, by rw [ec]; exact p4⟩
  rw [es (part + 1) (by omega)]
  exact (h6 (part + 1) (by omega)).trans p1
theorem wf_tx {A A' : am_S} {x : Int32} (h : wf_A A) (hq : tx_Q A A' x) : wf_A A' := by
  rcases hq with ⟨-, -, rfl⟩ | ⟨hnt, hD, hr⟩
  · exact h
  · have h160 := wf_tp160 h
    have h6 := wf_nt6 h
    obtain ⟨g1, g2, g3, g4, g5, g6, g7, g8, g9, g10, g11, g12⟩ := h
    have e5 : ∀ k, k ≠ 11 → k ≠ 14 → A' 65 k = A 65 k := fun k h1 h2 => hD.2 65 k (by omega) (by omega) (by omega)
    have eF : ∀ a, a ≠ 65 → a ≠ 75 → a ≠ 76 → A' a = A a := fun a h1 h2 h3 => funext fun k => hD.2 a k (fun z => h1 z.1) (fun z => h2 z.1) (fun z => h3 z.1)
    have n0 : s_np A' = s_np A := congrArg sN (e5 0 (by decide) (by decide))
    have n1 : s_nq A' = s_nq A := congrArg sN (e5 6 (by decide) (by decide))
    have n2 : s_tp A' = 0 := (congrArg sN hD.1).trans rfl
    have n4 : s_rl A' = s_rl A := congrArg sN (e5 15 (by decide) (by decide))
    have hold : ∀ t, t < s_nt A → wf_t A' t := fun t ht => wt_cg (fun i hi => hD.2 76 _ (by omega) (by omega) (by omega)) (fun k hk => hD.2 75 _ (by omega) (by omega) (by omega)) (g10 t ht)
    have key : ∀ m, A' 65 14 = nI m → m ≤ 6 → s_nt A ≤ m → (∀ t, t < m → wf_t A' t) → wf_A A' := fun m hm hm6 hle hall => by
      have n3 : s_nt A' = m := (congrArg sN hm).trans (sN_n (by omega))
      refine ⟨?_, ?_, ?_, ?_, ?_, ?_, ?_, ?_, ?_, ?_, ?_, ?_⟩
      · rw [n0, e5 0 (by decide) (by decide)]; exact g1
      · rw [n1, e5 6 (by decide) (by decide)]; exact g2
      · rw [n2]; exact ⟨hD.1, Nat.zero_le _⟩
      · rw [n3]; exact ⟨hm, by omega, hm6⟩
      · rw [n4, n3, e5 15 (by decide) (by decide)]; exact ⟨g5.1, by omega⟩
      · intro p hp
        rw [n0] at hp
        unfold wf_p
        rw [eF 66 (by decide) (by decide) (by decide), eF 67 (by decide) (by decide) (by decide), eF 68 (by decide) (by decide) (by decide), eF 69 (by decide) (by decide) (by decide), eF 70 (by decide) (by decide) (by decide)]
        exact g6 p hp
      · intro q hq
        rw [n1] at hq
        unfold wf_q
        rw [eF 71 (by decide) (by decide) (by decide), eF 72 (by decide) (by decide) (by decide)]
        exact g7 q hq
      · rw [eF 73 (by decide) (by decide) (by decide)]; exact g8
      · rw [n2]; exact fun i hi => absurd hi (Nat.not_lt_zero _)
      · rw [n3]; exact hall
      · unfold wf_i
        rw [n0, n1, n3, e5 16 (by decide) (by decide), e5 17 (by decide) (by decide), e5 18 (by decide) (by decide), e5 19 (by decide) (by decide), eF 77 (by decide) (by decide) (by decide), eF 78 (by decide) (by decide) (by decide), eF 79 (by decide) (by decide) (by decide)]
        rcases g11 with z | ⟨z1, z2, z3, ⟨t, z4, z5⟩, z6⟩
        · exact Or.inl z
        · exact Or.inr ⟨z1, z2, z3, ⟨t, z4, by omega⟩, z6⟩
      · intro s hs
        unfold wf_s
        rw [eF 80 (by decide) (by decide) (by decide), eF 81 (by decide) (by decide) (by decide)]
        exact g12 s hs
    rcases hr with ⟨-, -, e14⟩ | ⟨htx, -, e14, hK⟩
    · exact key _ e14 (by omega) (Nat.le_refl _) hold
    · refine key _ e14 (by omega) (by omega) (fun t ht => ?_)
      by_cases e : t = s_nt A
      · subst e
        obtain ⟨w1, w2, w3, w4⟩ := tx_W (b := A 74) (n := s_tp A) h160 htx
        exact wt_new hK w1 w2 w3 w4
      · exact hold t (by omega)
