/-! a state stays one when one cell changes; what right answers depend on -/
theorem wf_70 {A : am_S} {i : Nat} {v : Int32} (h : wf_A A) (hv : am_rg v 10) : wf_A (am_up A 70 i v) := by
  have e : ∀ b k, b ≠ 70 → am_up A 70 i v b k = A b k := fun b k hb => am_ua hb
  have e2 : ∀ b, b ≠ 70 → am_up A 70 i v b = A b := fun b hb => funext fun k => e b k hb
  obtain ⟨h1, h2, h3, h4, h5, h6, h7, h8, h9, h10, h11, h12⟩ := h
  have n0 : s_np (am_up A 70 i v) = s_np A := congrArg sN (e 65 0 (by decide))
  have n1 : s_nq (am_up A 70 i v) = s_nq A := congrArg sN (e 65 6 (by decide))
  have n2 : s_tp (am_up A 70 i v) = s_tp A := congrArg sN (e 65 11 (by decide))
  have n3 : s_nt (am_up A 70 i v) = s_nt A := congrArg sN (e 65 14 (by decide))
  have n4 : s_rl (am_up A 70 i v) = s_rl A := congrArg sN (e 65 15 (by decide))
  unfold wf_A
  rw [n0, n1, n2, n3, n4]
  refine ⟨⟨by rw [e _ _ (by decide)]; exact h1.1, h1.2⟩, ⟨by rw [e _ _ (by decide)]; exact h2.1, h2.2⟩, ⟨by rw [e _ _ (by decide)]; exact h3.1, h3.2⟩, ⟨by rw [e _ _ (by decide)]; exact h4.1, h4.2⟩, ⟨by rw [e _ _ (by decide)]; exact h5.1, h5.2⟩, fun x hx => ?_, fun q hq => ?_, fun t ht => ?_, fun i hi => ?_, fun t ht => ?_, ?_, fun s hs => ?_⟩
  · obtain ⟨g1, g2, g3, g4, g5⟩ := h6 x hx
    unfold wf_p
    rw [e2 66 (by decide), e2 67 (by decide), e2 68 (by decide), e2 69 (by decide)]
    refine ⟨g1, g2, g3, g4, fun j hj => ?_⟩
    by_cases hxp : 4 * x + j = i
    · rw [hxp, am_us]; exact hv
    · rw [am_uk hxp]; exact g5 j hj
  · unfold wf_q; rw [e2 71 (by decide), e2 72 (by decide)]; exact h7 q hq
  · rw [e2 73 (by decide)]; exact h8 t ht
  · rw [e2 74 (by decide)]; exact h9 i hi
  · unfold wf_t s_cs s_st s_sl; rw [e2 75 (by decide), e2 76 (by decide)]; exact h10 t ht
  · unfold wf_i; rw [n0, n1, n3, e 65 16 (by decide), e 65 17 (by decide), e 65 18 (by decide), e 65 19 (by decide), e2 77 (by decide), e2 78 (by decide), e2 79 (by decide)]; exact h11
  · unfold wf_s; rw [e2 80 (by decide), e2 81 (by decide)]; exact h12 s hs
theorem wf_80 {A : am_S} {i : Nat} {v : Int32} (h : wf_A A) (hv : v = -1 ∨ am_rg v 3) : wf_A (am_up A 80 i v) := by
  have e : ∀ b k, b ≠ 80 → am_up A 80 i v b k = A b k := fun b k hb => am_ua hb
  have e2 : ∀ b, b ≠ 80 → am_up A 80 i v b = A b := fun b hb => funext fun k => e b k hb
  obtain ⟨h1, h2, h3, h4, h5, h6, h7, h8, h9, h10, h11, h12⟩ := h
  have n0 : s_np (am_up A 80 i v) = s_np A := congrArg sN (e 65 0 (by decide))
  have n1 : s_nq (am_up A 80 i v) = s_nq A := congrArg sN (e 65 6 (by decide))
  have n2 : s_tp (am_up A 80 i v) = s_tp A := congrArg sN (e 65 11 (by decide))
  have n3 : s_nt (am_up A 80 i v) = s_nt A := congrArg sN (e 65 14 (by decide))
  have n4 : s_rl (am_up A 80 i v) = s_rl A := congrArg sN (e 65 15 (by decide))
  unfold wf_A
  rw [n0, n1, n2, n3, n4]
  refine ⟨⟨by rw [e _ _ (by decide)]; exact h1.1, h1.2⟩, ⟨by rw [e _ _ (by decide)]; exact h2.1, h2.2⟩, ⟨by rw [e _ _ (by decide)]; exact h3.1, h3.2⟩, ⟨by rw [e _ _ (by decide)]; exact h4.1, h4.2⟩, ⟨by rw [e _ _ (by decide)]; exact h5.1, h5.2⟩, fun x hx => ?_, fun q hq => ?_, fun t ht => ?_, fun i hi => ?_, fun t ht => ?_, ?_, fun s hs => ?_⟩
  · unfold wf_p; rw [e2 66 (by decide), e2 67 (by decide), e2 68 (by decide), e2 69 (by decide), e2 70 (by decide)]; exact h6 x hx
  · unfold wf_q; rw [e2 71 (by decide), e2 72 (by decide)]; exact h7 q hq
  · rw [e2 73 (by decide)]; exact h8 t ht
  · rw [e2 74 (by decide)]; exact h9 i hi
  · unfold wf_t s_cs s_st s_sl; rw [e2 75 (by decide), e2 76 (by decide)]; exact h10 t ht
  · unfold wf_i; rw [n0, n1, n3, e 65 16 (by decide), e 65 17 (by decide), e 65 18 (by decide), e 65 19 (by decide), e2 77 (by decide), e2 78 (by decide), e2 79 (by decide)]; exact h11
  · obtain ⟨g1, g2⟩ := h12 s hs
    unfold wf_s
    rw [e2 81 (by decide)]
    refine ⟨?_, g2⟩
    by_cases hxp : s = i
    · rw [hxp, am_us]; exact hv
    · rw [am_uk hxp]; exact g1
theorem wf_81 {A : am_S} {i : Nat} {v : Int32} (h : wf_A A) (hv : am_rg v 41) : wf_A (am_up A 81 i v) := by
  have e : ∀ b k, b ≠ 81 → am_up A 81 i v b k = A b k := fun b k hb => am_ua hb
  have e2 : ∀ b, b ≠ 81 → am_up A 81 i v b = A b := fun b hb => funext fun k => e b k hb
  obtain ⟨h1, h2, h3, h4, h5, h6, h7, h8, h9, h10, h11, h12⟩ := h
  have n0 : s_np (am_up A 81 i v) = s_np A := congrArg sN (e 65 0 (by decide))
  have n1 : s_nq (am_up A 81 i v) = s_nq A := congrArg sN (e 65 6 (by decide))
  have n2 : s_tp (am_up A 81 i v) = s_tp A := congrArg sN (e 65 11 (by decide))
  have n3 : s_nt (am_up A 81 i v) = s_nt A := congrArg sN (e 65 14 (by decide))
  have n4 : s_rl (am_up A 81 i v) = s_rl A := congrArg sN (e 65 15 (by decide))
  unfold wf_A
  rw [n0, n1, n2, n3, n4]
  refine ⟨⟨by rw [e _ _ (by decide)]; exact h1.1, h1.2⟩, ⟨by rw [e _ _ (by decide)]; exact h2.1, h2.2⟩, ⟨by rw [e _ _ (by decide)]; exact h3.1, h3.2⟩, ⟨by rw [e _ _ (by decide)]; exact h4.1, h4.2⟩, ⟨by rw [e _ _ (by decide)]; exact h5.1, h5.2⟩, fun x hx => ?_, fun q hq => ?_, fun t ht => ?_, fun i hi => ?_, fun t ht => ?_, ?_, fun s hs => ?_⟩
  · unfold wf_p; rw [e2 66 (by decide), e2 67 (by decide), e2 68 (by decide), e2 69 (by decide), e2 70 (by decide)]; exact h6 x hx
  · unfold wf_q; rw [e2 71 (by decide), e2 72 (by decide)]; exact h7 q hq
  · rw [e2 73 (by decide)]; exact h8 t ht
  · rw [e2 74 (by decide)]; exact h9 i hi
  · unfold wf_t s_cs s_st s_sl; rw [e2 75 (by decide), e2 76 (by decide)]; exact h10 t ht
  · unfold wf_i; rw [n0, n1, n3, e 65 16 (by decide), e 65 17 (by decide), e 65 18 (by decide), e 65 19 (by decide), e2 77 (by decide), e2 78 (by decide), e2 79 (by decide)]; exact h11
  · obtain ⟨g1, g2⟩ := h12 s hs
    unfold wf_s
    rw [e2 80 (by decide)]
    refine ⟨g1, ?_⟩
    by_cases hxp : s = i
    · rw [hxp, am_us]; exact hv
    · rw [am_uk hxp]; exact g2
theorem wf_82 {A : am_S} {i : Nat} {v : Int32} (h : wf_A A) : wf_A (am_up A 82 i v) := by
  have e : ∀ b k, b ≠ 82 → am_up A 82 i v b k = A b k := fun b k hb => am_ua hb
  have e2 : ∀ b, b ≠ 82 → am_up A 82 i v b = A b := fun b hb => funext fun k => e b k hb
  obtain ⟨h1, h2, h3, h4, h5, h6, h7, h8, h9, h10, h11, h12⟩ := h
  have n0 : s_np (am_up A 82 i v) = s_np A := congrArg sN (e 65 0 (by decide))
  have n1 : s_nq (am_up A 82 i v) = s_nq A := congrArg sN (e 65 6 (by decide))
  have n2 : s_tp (am_up A 82 i v) = s_tp A := congrArg sN (e 65 11 (by decide))
  have n3 : s_nt (am_up A 82 i v) = s_nt A := congrArg sN (e 65 14 (by decide))
  have n4 : s_rl (am_up A 82 i v) = s_rl A := congrArg sN (e 65 15 (by decide))
  unfold wf_A
  rw [n0, n1, n2, n3, n4]
  refine ⟨⟨by rw [e _ _ (by decide)]; exact h1.1, h1.2⟩, ⟨by rw [e _ _ (by decide)]; exact h2.1, h2.2⟩, ⟨by rw [e _ _ (by decide)]; exact h3.1, h3.2⟩, ⟨by rw [e _ _ (by decide)]; exact h4.1, h4.2⟩, ⟨by rw [e _ _ (by decide)]; exact h5.1, h5.2⟩, fun x hx => ?_, fun q hq => ?_, fun t ht => ?_, fun i hi => ?_, fun t ht => ?_, ?_, fun s hs => ?_⟩
  · unfold wf_p; rw [e2 66 (by decide), e2 67 (by decide), e2 68 (by decide), e2 69 (by decide), e2 70 (by decide)]; exact h6 x hx
  · unfold wf_q; rw [e2 71 (by decide), e2 72 (by decide)]; exact h7 q hq
  · rw [e2 73 (by decide)]; exact h8 t ht
  · rw [e2 74 (by decide)]; exact h9 i hi
  · unfold wf_t s_cs s_st s_sl; rw [e2 75 (by decide), e2 76 (by decide)]; exact h10 t ht
  · unfold wf_i; rw [n0, n1, n3, e 65 16 (by decide), e 65 17 (by decide), e 65 18 (by decide), e 65 19 (by decide), e2 77 (by decide), e2 78 (by decide), e2 79 (by decide)]; exact h11
  · unfold wf_s; rw [e2 80 (by decide), e2 81 (by decide)]; exact h12 s hs
theorem wf_88 {A : am_S} {i : Nat} {v : Int32} (h : wf_A A) : wf_A (am_up A 88 i v) := by
  have e : ∀ b k, b ≠ 88 → am_up A 88 i v b k = A b k := fun b k hb => am_ua hb
  have e2 : ∀ b, b ≠ 88 → am_up A 88 i v b = A b := fun b hb => funext fun k => e b k hb
  obtain ⟨h1, h2, h3, h4, h5, h6, h7, h8, h9, h10, h11, h12⟩ := h
  have n0 : s_np (am_up A 88 i v) = s_np A := congrArg sN (e 65 0 (by decide))
  have n1 : s_nq (am_up A 88 i v) = s_nq A := congrArg sN (e 65 6 (by decide))
  have n2 : s_tp (am_up A 88 i v) = s_tp A := congrArg sN (e 65 11 (by decide))
  have n3 : s_nt (am_up A 88 i v) = s_nt A := congrArg sN (e 65 14 (by decide))
  have n4 : s_rl (am_up A 88 i v) = s_rl A := congrArg sN (e 65 15 (by decide))
  unfold wf_A
  rw [n0, n1, n2, n3, n4]
  refine ⟨⟨by rw [e _ _ (by decide)]; exact h1.1, h1.2⟩, ⟨by rw [e _ _ (by decide)]; exact h2.1, h2.2⟩, ⟨by rw [e _ _ (by decide)]; exact h3.1, h3.2⟩, ⟨by rw [e _ _ (by decide)]; exact h4.1, h4.2⟩, ⟨by rw [e _ _ (by decide)]; exact h5.1, h5.2⟩, fun x hx => ?_, fun q hq => ?_, fun t ht => ?_, fun i hi => ?_, fun t ht => ?_, ?_, fun s hs => ?_⟩
  · unfold wf_p; rw [e2 66 (by decide), e2 67 (by decide), e2 68 (by decide), e2 69 (by decide), e2 70 (by decide)]; exact h6 x hx
  · unfold wf_q; rw [e2 71 (by decide), e2 72 (by decide)]; exact h7 q hq
  · rw [e2 73 (by decide)]; exact h8 t ht
  · rw [e2 74 (by decide)]; exact h9 i hi
  · unfold wf_t s_cs s_st s_sl; rw [e2 75 (by decide), e2 76 (by decide)]; exact h10 t ht
  · unfold wf_i; rw [n0, n1, n3, e 65 16 (by decide), e 65 17 (by decide), e 65 18 (by decide), e 65 19 (by decide), e2 77 (by decide), e2 78 (by decide), e2 79 (by decide)]; exact h11
  · unfold wf_s; rw [e2 80 (by decide), e2 81 (by decide)]; exact h12 s hs
theorem wf_up0 {A : am_S} {k : Nat} (hk : k < 8) : sN (nI k) = k := sN_n (by omega)
theorem wf_15 {A : am_S} {v : Int32} (h : wf_A A) (hv : ∃ k, k < s_nt A ∧ v = nI k) : wf_A (am_up A 65 15 v) := by
  have e : ∀ b k, ¬ (b = 65 ∧ k = 15) → am_up A 65 15 v b k = A b k := fun b k hb => am_un hb
  have e2 : ∀ b, b ≠ 65 → am_up A 65 15 v b = A b := fun b hb => funext fun k => e b k (fun z => hb z.1)
  obtain ⟨h1, h2, h3, h4, h5, h6, h7, h8, h9, h10, h11, h12⟩ := h
  have n0 : s_np (am_up A 65 15 v) = s_np A := congrArg sN (e 65 0 (by decide))
  have n1 : s_nq (am_up A 65 15 v) = s_nq A := congrArg sN (e 65 6 (by decide))
  have n2 : s_tp (am_up A 65 15 v) = s_tp A := congrArg sN (e 65 11 (by decide))
  have n3 : s_nt (am_up A 65 15 v) = s_nt A := congrArg sN (e 65 14 (by decide))
  obtain ⟨k, hk, rfl⟩ := hv
  have n4 : s_rl (am_up A 65 15 (nI k)) = k := (congrArg sN am_us).trans (sN_n (by have := h4.2.2; omega))
  unfold wf_A
  rw [n0, n1, n2, n3, n4]
  refine ⟨⟨by rw [e _ _ (by decide)]; exact h1.1, h1.2⟩, ⟨by rw [e _ _ (by decide)]; exact h2.1, h2.2⟩, ⟨by rw [e _ _ (by decide)]; exact h3.1, h3.2⟩, ⟨by rw [e _ _ (by decide)]; exact h4.1, h4.2⟩, ⟨am_us, hk⟩, fun x hx => ?_, fun q hq => ?_, fun t ht => ?_, fun i hi => ?_, fun t ht => ?_, ?_, fun s hs => ?_⟩
  · unfold wf_p; rw [e2 66 (by decide), e2 67 (by decide), e2 68 (by decide), e2 69 (by decide), e2 70 (by decide)]; exact h6 x hx
  · unfold wf_q; rw [e2 71 (by decide), e2 72 (by decide)]; exact h7 q hq
  · rw [e2 73 (by decide)]; exact h8 t ht
  · rw [e2 74 (by decide)]; exact h9 i hi
  · unfold wf_t s_cs s_st s_sl; rw [e2 75 (by decide), e2 76 (by decide)]; exact h10 t ht
  · unfold wf_i; rw [n0, n1, n3, e 65 16 (by decide), e 65 17 (by decide), e 65 18 (by decide), e 65 19 (by decide), e2 77 (by decide), e2 78 (by decide), e2 79 (by decide)]; exact h11
  · unfold wf_s; rw [e2 80 (by decide), e2 81 (by decide)]; exact h12 s hs
/-- high cells don't count for right answers -/
theorem s_eqU {A : am_S} {a i : Nat} {v : Int32} (h : 77 ≤ a) : s_eq (am_up A a i v) A := by
  have h2 : ∀ b k, b < 77 → am_up A a i v b k = A b k := fun b k hb => am_ua (by omega)
  exact ⟨h2 _ _ (by decide), h2 _ _ (by decide), h2 _ _ (by decide), funext fun i => h2 _ _ (by decide), funext fun i => h2 _ _ (by decide), funext fun i => h2 _ _ (by decide), funext fun i => h2 _ _ (by decide), funext fun i => h2 _ _ (by decide), funext fun i => h2 _ _ (by decide), funext fun i => h2 _ _ (by decide), funext fun i => h2 _ _ (by decide)⟩
theorem s_seU {A : am_S} {a i : Nat} {v : Int32} {T : Nat} (h : a ≠ 69) : s_se (am_up A a i v) T = s_se A T := by
  unfold s_se
  funext p
  rw [am_ua (Ne.symm h)]
theorem s_eq.tr {A B C : am_S} (h : s_eq A B) (h2 : s_eq B C) : s_eq A C := by
  obtain ⟨a1, a2, a3, a4, a5, a6, a7, a8, a9, a10, a11⟩ := h
  obtain ⟨b1, b2, b3, b4, b5, b6, b7, b8, b9, b10, b11⟩ := h2
  exact ⟨a1.trans b1, a2.trans b2, a3.trans b3, a4.trans b4, a5.trans b5, a6.trans b6, a7.trans b7, a8.trans b8, a9.trans b9, a10.trans b10, a11.trans b11⟩
/-- places changed and changed back -/
theorem s_swb {A : am_S} {a b : Nat} : am_up (am_up (s_sw A a b) 69 b (s_sw A a b 69 a)) 69 a (A 69 a) = A := by
  funext x y
  by_cases h1 : x = 69 ∧ y = a
  · obtain ⟨rfl, rfl⟩ := h1
    rw [am_us]
  · rw [am_un h1]
    by_cases h2 : x = 69 ∧ y = b
    · obtain ⟨rfl, rfl⟩ := h2
      rw [am_us]
      unfold s_sw
      by_cases h3 : a = y
      · subst h3; exact absurd ⟨rfl, rfl⟩ h1
      · rw [am_uk h3, am_us]
    · rw [am_un h2]
      unfold s_sw
      rw [am_un h2, am_un h1]
theorem wf_sw {A : am_S} {a b : Nat} (h : wf_A A) (ha : a < s_np A) (hb : b < s_np A) : wf_A (s_sw A a b) := wf_69 (wf_69 h (wf_pp h b hb).2.2.2.1) (wf_pp h a ha).2.2.2.1
theorem s_acE {A : am_S} {a b : Nat} : s_ap (s_sw A a b) (fun q => (2 ^ s_nq (s_sw A a b) - 1).testBit q) = s_ac A a b := s_apT
theorem s_c1E {A : am_S} {a b : Nat} {x : Int32 × Int32} (h : a + 1 ≤ b) (h2 : A 69 a = A 69 b) : s_c1 A a x (b + 1 - (a + 1)) = s_c1 A a x (b - (a + 1)) := by
  have e : b + 1 - (a + 1) = (b - (a + 1)) + 1 := by omega
  have e2 : a + 1 + (b - (a + 1)) = b := by omega
  rw [e]
  show (if A 69 a = A 69 (a + 1 + (b - (a + 1))) then _ else _) = _
  rw [e2, if_pos h2]
theorem s_c1Y {A : am_S} {a b : Nat} {x : Int32 × Int32} (h : a + 1 ≤ b) (h2 : ¬ A 69 a = A 69 b) (h3 : s_ac A a b < (s_c1 A a x (b - (a + 1))).2) : s_c1 A a x (b + 1 - (a + 1)) = (nI (10 * a + b), s_ac A a b) := by
  have e : b + 1 - (a + 1) = (b - (a + 1)) + 1 := by omega
  have e2 : a + 1 + (b - (a + 1)) = b := by omega
  rw [e]
  show (if A 69 a = A 69 (a + 1 + (b - (a + 1))) then _ else if s_ac A a (a + 1 + (b - (a + 1))) < _ then (nI (10 * a + (a + 1 + (b - (a + 1)))), s_ac A a (a + 1 + (b - (a + 1)))) else _) = _
  rw [e2, if_neg h2, if_pos h3]
theorem s_c1K {A : am_S} {a b : Nat} {x : Int32 × Int32} (h : a + 1 ≤ b) (h2 : ¬ A 69 a = A 69 b) (h3 : ¬ s_ac A a b < (s_c1 A a x (b - (a + 1))).2) : s_c1 A a x (b + 1 - (a + 1)) = s_c1 A a x (b - (a + 1)) := by
  have e : b + 1 - (a + 1) = (b - (a + 1)) + 1 := by omega
  have e2 : a + 1 + (b - (a + 1)) = b := by omega
  rw [e]
  show (if A 69 a = A 69 (a + 1 + (b - (a + 1))) then _ else if s_ac A a (a + 1 + (b - (a + 1))) < _ then (nI (10 * a + (a + 1 + (b - (a + 1)))), s_ac A a (a + 1 + (b - (a + 1)))) else _) = _
  rw [e2, if_neg h2, if_neg h3]
theorem s_c10 {A : am_S} {a : Nat} {x : Int32 × Int32} : s_c1 A a x (a + 1 - (a + 1)) = x := by rw [Nat.sub_self]; rfl
/-- where a table has it otherwise -/
theorem s_ufS {A : am_S} {s : Nat} {S : Nat → Bool} {q : Nat} (h : q < s_nq A) (e : A 82 (40 * s + q) = s_b2 (s_rt A S q)) : s_uf A s S (s_nq A - q) q = s_uf A s S (s_nq A - (q + 1)) (q + 1) := by
  have e2 : s_nq A - q = (s_nq A - (q + 1)) + 1 := by omega
  rw [e2]
  exact if_pos e
theorem s_ufN {A : am_S} {s : Nat} {S : Nat → Bool} {q : Nat} (h : q < s_nq A) (e : ¬ A 82 (40 * s + q) = s_b2 (s_rt A S q)) : s_uf A s S (s_nq A - q) q = some q := by
  have e2 : s_nq A - q = (s_nq A - (q + 1)) + 1 := by omega
  rw [e2]
  exact if_neg e
theorem s_uf0 {A : am_S} {s : Nat} {S : Nat → Bool} {q : Nat} (h : s_nq A ≤ q) : s_uf A s S (s_nq A - q) q = none := by
  have e2 : s_nq A - q = 0 := by omega
  rw [e2]
  rfl
theorem s_uflt {A : am_S} {s : Nat} {S : Nat → Bool} : ∀ {n q b : Nat}, s_uf A s S n q = some b → b < q + n := by
  intro n
  induction n with
  | zero => intro q b h; cases h
  | succ n ih =>
    intro q b h
    by_cases e : A 82 (40 * s + q) = s_b2 (s_rt A S q)
    · rw [show s_uf A s S (n + 1) q = s_uf A s S n (q + 1) from if_pos e] at h
      have := ih h
      omega
    · rw [show s_uf A s S (n + 1) q = some q from if_neg e] at h
      cases h
      omega
theorem s_ulI {A : am_S} {s : Nat} {S : Nat → Bool} (h8 : s_nq A ≤ 8) : s_bi (s_ul A s S) = -1 ↔ s_ul A s S = none := by
  cases h : s_ul A s S with
  | none => exact ⟨fun _ => rfl, fun _ => rfl⟩
  | some b =>
    have := s_uflt (show s_uf A s S (s_nq A) 0 = some b from h)
    exact ⟨fun z => absurd z (s_bi_n (by omega)), fun z => by cases z⟩
theorem s_wr0 {A : am_S} {s : Int32} (h : s_wr A s = 0) : ∃ j, j < 4 ∧ s = nI j := by
  by_cases q : am_rg s 4
  · exact q
  · unfold s_wr at h
    rw [am_inF (by decide) q, if_neg (by decide)] at h
    exact absurd h (by decide)
/-- lots, sheets -/
theorem am_bdR9 {x : Int32} : am_rg (am_bd x 0 9) 10 := by
  unfold am_bd
  by_cases h : x < 0
  · exact ⟨0, by decide, if_pos h⟩
  · rw [if_neg h]
    by_cases h2 : 9 < x
    · exact ⟨9, by decide, if_pos h2⟩
    · rw [if_neg h2]
      exact (am_rgl (n := 10) (c := 9) (by decide)).mp ⟨Int32.not_lt.mp h, Int32.not_lt.mp h2⟩
theorem wf_dr {A : am_S} {l : Int64} (h : wf_A A) : ∀ n, wf_A (s_dr A l n)
  | 0 => h
  | n + 1 => wf_70 (wf_dr h n) am_bdR9
theorem s_dr_x {A : am_S} {l : Int64} {a k : Nat} : ∀ {n : Nat}, (a ≠ 70 ∨ n ≤ k) → s_dr A l n a k = A a k
  | 0, _ => rfl
  | n + 1, h => by
    show am_up (s_dr A l n) 70 n _ a k = _
    rw [am_un (by omega), s_dr_x (by omega)]
def s_rb (A B : am_S) : Nat → am_S
  | 0 => B
  | n + 1 => am_up (s_rb A B n) 70 n (A 70 n)
theorem s_rb_x {A B : am_S} (h : ∀ a k, a ≠ 70 ∨ 28 ≤ k → B a k = A a k) : s_rb A B 28 = A := by
  have h2 : ∀ n a k, s_rb A B n a k = if a = 70 ∧ k < n then A a k else B a k := by
    intro n
    induction n with
    | zero => intro a k; rw [if_neg (by omega)]; rfl
    | succ n ih =>
      intro a k
      show am_up (s_rb A B n) 70 n (A 70 n) a k = _
      by_cases e : a = 70 ∧ k = n
      · obtain ⟨rfl, rfl⟩ := e
        rw [am_us, if_pos ⟨rfl, Nat.lt_succ_self _⟩]
      · rw [am_un e, ih]
        by_cases e3 : a = 70 ∧ k < n
        · rw [if_pos e3, if_pos ⟨e3.1, by omega⟩]
        · rw [if_neg e3, if_neg (by omega)]
  funext a k
  rw [h2]
  by_cases e : a = 70 ∧ k < 28
  · rw [if_pos e]
  · rw [if_neg e]
    exact h a k (by omega)
theorem s_fmS {A : am_S} {s T n : Nat} : s_fm A s T (n + 1) = am_up (s_fm A s T n) 82 (40 * s + n) (if n < s_nq A ∧ s_rt A (s_se A T) n = true then 1 else 0) := rfl
theorem s_fm_eq {A : am_S} {s T : Nat} : ∀ n, s_eq (s_fm A s T n) A
  | 0 => (s_eqU (by decide)).tr (s_eqU (by decide))
  | n + 1 => (s_eqU (by decide)).tr (s_fm_eq n)
theorem s_fm_se {A : am_S} {s T : Nat} : ∀ n, s_se (s_fm A s T n) T = s_se A T
  | 0 => (s_seU (by decide)).trans (s_seU (by decide))
  | n + 1 => (s_seU (by decide)).trans (s_fm_se n)
theorem s_fm_65 {A : am_S} {s T k : Nat} : ∀ n, s_fm A s T n 65 k = A 65 k
  | 0 => (am_ua (by decide)).trans (am_ua (by decide))
  | n + 1 => (am_ua (by decide)).trans (s_fm_65 n)
theorem wf_fm {A : am_S} {s T : Nat} (h : wf_A A) : ∀ n, wf_A (s_fm A s T n)
  | 0 => wf_81 (wf_80 h (Or.inr ⟨2, by decide, rfl⟩)) (by rw [wf_nq h]; exact ⟨s_nq A, by have := wf_nq8 h; omega, rfl⟩)
  | n + 1 => wf_82 (wf_fm h n)
theorem s_fm_rt {A : am_S} {s T n q : Nat} : s_rt (s_fm A s T n) (s_se (s_fm A s T n) T) q = s_rt A (s_se A T) q := by rw [(s_fm_eq n).rt, s_fm_se]
