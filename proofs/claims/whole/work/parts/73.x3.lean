/-! the class: what is reckoned -/
theorem mk_and {f : Nat → Bool} {n m : Nat} : nI (mk_m f n) &&& nI m = nI (mk_m (fun p => m.testBit p && f p) n) := by
  rw [fa_and]
  congr 1
  apply Nat.eq_of_testBit_eq
  intro k
  rw [Nat.testBit_and, mk_tb, mk_tb]
  cases f k <;> cases m.testBit k <;> simp
theorem mk_z {f : Nat → Bool} {n : Nat} : mk_m f n = 0 ↔ ∀ k, k < n → f k = false := by
  constructor
  · intro h k hk
    have e := mk_tb f n k
    rw [h, Nat.zero_testBit] at e
    simp [hk] at e
    exact e
  · intro h
    apply Nat.eq_of_testBit_eq
    intro k
    rw [mk_tb, Nat.zero_testBit]
    by_cases hk : k < n
    · simp [h k hk]
    · simp [hk]
theorem mk_bits {m n : Nat} (h : m < 2 ^ n) : mk_m (fun p => m.testBit p) n = m := by
  apply Nat.eq_of_testBit_eq
  intro k
  rw [mk_tb]
  by_cases hk : k < n
  · simp [hk]
  · simp only [hk, decide_false, Bool.false_and]
    exact (Nat.testBit_lt_two_pow (Nat.lt_of_lt_of_le h (Nat.pow_le_pow_right (by decide) (by omega)))).symm
theorem mk_hi {m n p : Nat} (h : m < 2 ^ n) (hp : n ≤ p) : m.testBit p = false := Nat.testBit_lt_two_pow (Nat.lt_of_lt_of_le h (Nat.pow_le_pow_right (by decide) hp))
theorem s_anE {A : am_S} {m q : Nat} : ∀ {n : Nat}, s_an A m q n = true ↔ ∃ p, p < n ∧ m.testBit p = true ∧ s_cn A p q = true := by
  intro n
  induction n with
  | zero => exact ⟨fun h => absurd (show false = true from h) Bool.false_ne_true, fun ⟨p, h, _⟩ => absurd h (Nat.not_lt_zero _)⟩
  | succ n ih =>
    show (s_an A m q n || (m.testBit n && s_cn A n q)) = true ↔ _
    rw [Bool.or_eq_true, Bool.and_eq_true, ih]
    constructor
    · rintro (⟨p, h1, h2⟩ | h)
      · exact ⟨p, by omega, h2⟩
      · exact ⟨n, by omega, h⟩
    · rintro ⟨p, h1, h2⟩
      by_cases e : p = n
      · subst e; exact Or.inr h2
      · exact Or.inl ⟨p, by omega, h2⟩
theorem s_anF {A : am_S} {m q n : Nat} (h : mk_m (fun p => m.testBit p && s_cn A p q) n = 0) : s_an A m q n = false := by
  cases e : s_an A m q n with
  | false => rfl
  | true =>
    obtain ⟨p, h1, h2, h3⟩ := s_anE.mp e
    have := mk_z.mp h p h1
    rw [h2, h3] at this
    cases this
theorem s_anT {A : am_S} {m q n : Nat} (h : ¬ mk_m (fun p => m.testBit p && s_cn A p q) n = 0) : s_an A m q n = true := by
  cases e : s_an A m q n with
  | true => rfl
  | false =>
    refine absurd (mk_z.mpr fun k hk => ?_) h
    cases h1 : m.testBit k with
    | false => rfl
    | true =>
      cases h2 : s_cn A k q with
      | false => rfl
      | true => rw [s_anE.mpr ⟨k, hk, h1, h2⟩] at e; cases e
theorem s_bl_hi {A : am_S} {S : Nat → Bool} {q n : Nat} (h : ∀ p, n ≤ p → S p = false) : ∀ k, s_bl A S q (n + k) = s_bl A S q n := by
  intro k
  induction k with
  | zero => rfl
  | succ k ih => exact (s_blF (h (n + k) (by omega))).trans ih
theorem am_bdN {a b : Nat} (h : a ≤ b) (hb : b < 2 ^ 31) : am_bd (nI a) 0 (nI b) = nI a := by
  unfold am_bd
  rw [if_neg (nI_pos (by omega)), if_neg (Int32.not_lt.mpr ((nI_leI (by omega) hb).mpr h))]
theorem x_m8 {P : Nat} : nI P * 8 = nI (8 * P) := (pk_mul P 8).trans (by rw [Nat.mul_comm])
/-- of what is reckoned: people below n -/
def cp_X (A : am_S) (n : Nat) (σ : am_M) : Prop := σ.2.1 54 4 = A 65 6 ∧ ∀ q, q < s_nq A → σ.2.1 56 q = nI (mk_m (fun p => s_cn A p q) n) ∧ σ.2.1 57 q = s_pt A q ∧ ∀ p, p < n → σ.2.1 55 (8 * p + q) = s_wt A p q
theorem cp_X.B {A : am_S} {σ : am_M} (h : cp_X A (s_np A) σ) : cb_X A σ := h
def cq_X (A : am_S) (P q : Nat) (σ : am_M) : Prop := σ.2.1 54 4 = A 65 6 ∧ ∀ y, y < s_nq A → σ.2.1 56 y = nI (mk_m (fun p => s_cn A p y) (if y < q then P + 1 else P)) ∧ σ.2.1 57 y = s_pt A y ∧ ∀ p, p < (if y < q then P + 1 else P) → σ.2.1 55 (8 * p + y) = s_wt A p y
theorem cq_X.b {A : am_S} {P : Nat} {σ : am_M} (h : cp_X A P σ) : cq_X A P 0 σ := h
theorem cq_X.e {A : am_S} {P q : Nat} {σ : am_M} (h : cq_X A P q σ) (hq : s_nq A ≤ q) : cp_X A (P + 1) σ := ⟨h.1, fun y hy => by have := h.2 y hy; rw [if_pos (by omega)] at this; exact this⟩
theorem cq_X.a {A : am_S} {P q : Nat} {σ : am_M} (h : cq_X A P q σ) (hq : q < s_nq A) : σ.2.1 56 q = nI (mk_m (fun p => s_cn A p q) P) := by have := (h.2 q hq).1; rw [if_neg (Nat.lt_irrefl _)] at this; exact this
theorem cq_X.s {A : am_S} {P q : Nat} {σ τ : am_M} (h : cq_X A P q σ) (h8 : s_nq A ≤ 8) (hq : q < s_nq A) (h54 : τ.2.1 54 = σ.2.1 54) (h57 : τ.2.1 57 = σ.2.1 57) (h56 : τ.2.1 56 q = nI (mk_m (fun p => s_cn A p q) (P + 1))) (h56' : ∀ y, y ≠ q → τ.2.1 56 y = σ.2.1 56 y) (h55 : τ.2.1 55 (8 * P + q) = s_wt A P q) (h55' : ∀ y, y ≠ 8 * P + q → τ.2.1 55 y = σ.2.1 55 y) : cq_X A P (q + 1) τ := by
  refine ⟨by rw [h54]; exact h.1, fun y hy => ?_⟩
  obtain ⟨a1, a2, a3⟩ := h.2 y hy
  refine ⟨?_, by rw [h57]; exact a2, fun p hp => ?_⟩
  · by_cases e : y = q
    · subst e; rw [if_pos (by omega)]; exact h56
    · rw [h56' y e, a1]
      by_cases c : y < q
      · rw [if_pos c, if_pos (by omega)]
      · rw [if_neg c, if_neg (by omega)]
  · by_cases e : y = q ∧ p = P
    · obtain ⟨rfl, rfl⟩ := e; exact h55
    · rw [h55' _ (by omega)]
      refine a3 p ?_
      by_cases c : y < q
      · rw [if_pos (by omega)] at hp; rw [if_pos c]; exact hp
      · rw [if_neg c]
        by_cases c2 : y < q + 1
        · rw [if_pos c2] at hp; omega
        · rw [if_neg c2] at hp; exact hp
def cz_X (A : am_S) (q : Nat) (σ : am_M) : Prop := σ.2.1 54 4 = A 65 6 ∧ ∀ y, y < q → σ.2.1 56 y = 0 ∧ σ.2.1 57 y = s_pt A y
theorem cz_X.e {A : am_S} {q : Nat} {σ : am_M} (h : cz_X A q σ) (hq : s_nq A ≤ q) : cp_X A 0 σ := ⟨h.1, fun y hy => ⟨(h.2 y (by omega)).1, (h.2 y (by omega)).2, fun p hp => absurd hp (Nat.not_lt_zero _)⟩⟩
theorem cz_X.s {A : am_S} {q : Nat} {σ τ : am_M} (h : cz_X A q σ) (h54 : τ.2.1 54 = σ.2.1 54) (h56 : τ.2.1 56 q = 0) (h56' : ∀ y, y ≠ q → τ.2.1 56 y = σ.2.1 56 y) (h57 : τ.2.1 57 q = s_pt A q) (h57' : ∀ y, y ≠ q → τ.2.1 57 y = σ.2.1 57 y) : cz_X A (q + 1) τ := by
  refine ⟨by rw [h54]; exact h.1, fun y hy => ?_⟩
  by_cases e : y = q
  · subst e; exact ⟨h56, h57⟩
  · obtain ⟨a1, a2⟩ := h.2 y (by omega)
    exact ⟨by rw [h56' y e]; exact a1, by rw [h57' y e]; exact a2⟩
theorem cp_X.cg {A : am_S} {n : Nat} {σ τ : am_M} (h : cp_X A n σ) (e : ∀ a, 54 ≤ a → a < 58 → τ.2.1 a = σ.2.1 a) : cp_X A n τ := by
  unfold cp_X
  rw [e 54 (by decide) (by decide), e 55 (by decide) (by decide), e 56 (by decide) (by decide), e 57 (by decide) (by decide)]
  exact h
/-- answers of reckoning -/
def am_qR0 (A : am_S) (K : am_M → Prop) (σ0 : am_M) : Option Value → am_M → Prop := fun r σ' => r = none ∧ iv_X A σ' ∧ fr_C σ0 σ' ∧ K σ' 
set_option maxHeartbeats 400000 in
set_option maxRecDepth 100000 in
theorem c_X0_believed (G : am_G) (D : Nat) (A : am_S) (σ : am_M) (hA : wf_A A) (hX : iv_X A σ) (m : Nat) (hm2n : m < 2 ^ s_np A) (q : Nat) (hq : q < s_nq A) (hc : cb_X A σ) : am_Mt G D mX0_believed [.ref 54, .int (nI m), .int (nI q)] σ 0 0 (am_q (.int (s_bi (s_be A (fun p => m.testBit p) q))) σ) := by
  have b7 := wf_np7 hA
  have b8 := wf_nq8 hA
  have b6 := wf_nt6 hA
  have b61 := wf_nt1 hA
  have b160 := wf_tp160 hA
  have brl := wf_rlt hA
  refine am_of moX0_believed (Nat.le_of_ble_eq_true rfl) ?_
  show am_Ev G mX0_believed (am_R D 0 0) 0 0 (am_q (.int (s_bi (s_be A (fun p => m.testBit p) q))) σ) 0 [(0, .ref 54), (1, .int (nI m)), (2, .int (nI q))] [] σ 0 0
  have hm31 : m < 2 ^ 31 := Nat.lt_of_lt_of_le hm2n (Nat.pow_le_pow_right (by decide) (by omega))
  have lp : ∀ (f : Nat) (p : Nat) (best : Int32) (most : Int32), (p ≤ 7) → (best = s_bi (s_bl A (fun p => m.testBit p) q p)) → (∀ b, s_bl A (fun p => m.testBit p) q p = some b → most = s_wt A b q) → 7 - p < f → am_Ev G mX0_believed (am_R D 0 0) 0 0 (am_q (.int (s_bi (s_be A (fun p => m.testBit p) q))) σ) 22 [(0, .ref 54), (1, .int (nI m)), (2, .int (nI q)), (3, .int best), (4, .int most), (5, .int (nI p))] [] σ 0 0 := by
    intro f
    induction f with
    | zero => intro p best most hp hb hm hf; exact absurd hf (Nat.not_lt_zero _)
    | succ f ih =>
      intro p best most hp hb hm hf
      cases ho : s_bl A (fun p => m.testBit p) q p with
      | none =>
        rw [ho] at hb; subst hb
        change am_Ev G mX0_believed (am_R D 0 0) 0 0 (am_q (.int (s_bi (s_be A (fun p => m.testBit p) q))) σ) 22 [(0, .ref 54), (1, .int (nI m)), (2, .int (nI q)), (3, .int (-1)), (4, .int most), (5, .int (nI p))] [] σ 0 0
        refine ev_iload dX0_believed_22 rfl ?_
        refine ev_bipush (v := 7) dX0_believed_24 (by decide) ?_
        refine ev_icmp_ge (tgt := 80) dX0_believed_26 (by decide) (fun c1 => ?_) (fun c1 => ?_)
        · skip
          have c1n : 7 ≤ p := (nI_leI (a := 7) (b := p) (by omega) (by omega)).mp c1
          refine ev_iload_n dX0_believed_80 rfl rfl ?_
          refine ev_reti dX0_believed_81 rfl (Nat.zero_le _) (Nat.zero_le _) ?_
          have e : p = s_np A + (7 - s_np A) := by omega
          rw [e, s_bl_hi (fun z hz => mk_hi hm2n hz)] at ho
          exact ⟨by unfold s_be; rw [ho]; rfl, rfl⟩
        · skip
          have c1n : ¬ 7 ≤ p := fun zz => c1 ((nI_leI (a := 7) (b := p) (by omega) (by omega)).mpr zz)
          cases hs : m.testBit p with
          | false =>
            refine ev_iload_n dX0_believed_29 rfl rfl ?_
            refine ev_iload dX0_believed_30 rfl ?_
            refine ev_ishr (v := (nI m) >>> ((nI p) &&& 31)) dX0_believed_32 rfl ?_
            refine ev_iconst (v := 1) dX0_believed_33 (by decide) ?_
            refine ev_iand (v := 0) dX0_believed_34 (by rw [mk_bit hm31 (by omega), hs]; rfl) ?_
            refine ev_if_ne (tgt := 41) dX0_believed_35 (by decide) (fun c => absurd (by decide) c) (fun _ => ?_)
            refine ev_goto (tgt := 74) dX0_believed_38 (by decide) ?_
            refine ev_iinc (lv' := [(0, .ref 54), (1, .int (nI m)), (2, .int (nI q)), (3, .int (-1)), (4, .int most), (5, .int (nI (p + 1)))]) (v := nI (p + 1)) dX0_believed_74 rfl (nI_1 _) (by decide) rfl ?_
            refine ev_goto (tgt := 22) dX0_believed_77 (by decide) ?_
            exact ih (p + 1) (-1) most (by omega) (by rw [s_blF hs, ho]; rfl) (by intro b2 h2; rw [s_blF hs, ho] at h2; cases h2) (by omega)
          | true =>
            have hpn : p < s_np A := by rcases Nat.lt_or_ge p (s_np A) with z | z; exact z; rw [mk_hi hm2n z] at hs; cases hs
            refine ev_iload_n dX0_believed_29 rfl rfl ?_
            refine ev_iload dX0_believed_30 rfl ?_
            refine ev_ishr (v := (nI m) >>> ((nI p) &&& 31)) dX0_believed_32 rfl ?_
            refine ev_iconst (v := 1) dX0_believed_33 (by decide) ?_
            refine ev_iand (v := 1) dX0_believed_34 (by rw [mk_bit hm31 (by omega), hs]; rfl) ?_
            refine ev_if_ne (tgt := 41) dX0_believed_35 (by decide) (fun _ => ?_) (fun c => absurd c (by decide))
            refine ev_aload_n dX0_believed_41 rfl rfl ?_
            refine ev_getR (b := 55) dX0_believed_42 fl_X0_9 (ly_k hX.ly 54 rfl) (ly_r hX.ly 25 rfl) ?_
            refine ev_iload dX0_believed_45 rfl ?_
            refine ev_bipush (v := 8) dX0_believed_47 (by decide) ?_
            refine ev_imul (v := nI (8 * p)) dX0_believed_49 x_m8 ?_
            refine ev_iload_n dX0_believed_50 rfl rfl ?_
            refine ev_iadd (v := nI (8 * p + q)) dX0_believed_51 (nI_add (8 * p) q) ?_
            refine ev_iald (v := s_wt A p q) dX0_believed_52 (ly_k hX.ly 55 rfl) (am_ixn (by omega) (by decide)) (hc.w (by omega) (by omega)) ?_
            refine ev_istore (lv' := [(0, .ref 54), (1, .int (nI m)), (2, .int (nI q)), (3, .int (-1)), (4, .int most), (5, .int (nI p)), (6, .int (s_wt A p q))]) dX0_believed_53 (by decide) rfl ?_
            refine ev_iload_n dX0_believed_55 rfl rfl ?_
            refine ev_iconst (v := (-1)) dX0_believed_56 (by decide) ?_
            refine ev_icmp_eq (tgt := 67) dX0_believed_57 (by decide) (fun _ => ?_) (fun c => absurd (by decide) c)
            refine ev_iload dX0_believed_67 rfl ?_
            refine ev_istore_n (lv' := [(0, .ref 54), (1, .int (nI m)), (2, .int (nI q)), (3, .int (nI p)), (4, .int most), (5, .int (nI p)), (6, .int (s_wt A p q))]) dX0_believed_69 rfl (by decide) rfl ?_
            refine ev_iload dX0_believed_70 rfl ?_
            refine ev_istore (lv' := [(0, .ref 54), (1, .int (nI m)), (2, .int (nI q)), (3, .int (nI p)), (4, .int (s_wt A p q)), (5, .int (nI p)), (6, .int (s_wt A p q))]) dX0_believed_72 (by decide) rfl ?_
            refine ev_iinc (lv' := [(0, .ref 54), (1, .int (nI m)), (2, .int (nI q)), (3, .int (nI p)), (4, .int (s_wt A p q)), (5, .int (nI (p + 1))), (6, .int (s_wt A p q))]) (v := nI (p + 1)) dX0_believed_74 rfl (nI_1 _) (by decide) rfl ?_
            refine ev_goto (tgt := 22) dX0_believed_77 (by decide) ?_
            refine ev_keep (lv' := [(0, .ref 54), (1, .int (nI m)), (2, .int (nI q)), (3, .int (nI p)), (4, .int (s_wt A p q)), (5, .int (nI (p + 1)))]) [0, 1, 2, 3, 4, 5] rfl ?_
            exact ih (p + 1) (nI p) (s_wt A p q) (by omega) (by rw [s_blN hs ho]; rfl) (by intro b2 h2; rw [s_blN hs ho] at h2; cases h2; rfl) (by omega)
      | some b =>
        have hm2 := hm b ho
        have hbl := (s_bllt ho).1
        rw [ho] at hb; subst hb
        change am_Ev G mX0_believed (am_R D 0 0) 0 0 (am_q (.int (s_bi (s_be A (fun p => m.testBit p) q))) σ) 22 [(0, .ref 54), (1, .int (nI m)), (2, .int (nI q)), (3, .int (nI b)), (4, .int most), (5, .int (nI p))] [] σ 0 0
        refine ev_iload dX0_believed_22 rfl ?_
        refine ev_bipush (v := 7) dX0_believed_24 (by decide) ?_
        refine ev_icmp_ge (tgt := 80) dX0_believed_26 (by decide) (fun c2 => ?_) (fun c2 => ?_)
        · skip
          have c2n : 7 ≤ p := (nI_leI (a := 7) (b := p) (by omega) (by omega)).mp c2
          refine ev_iload_n dX0_believed_80 rfl rfl ?_
          refine ev_reti dX0_believed_81 rfl (Nat.zero_le _) (Nat.zero_le _) ?_
          have e : p = s_np A + (7 - s_np A) := by omega
          rw [e, s_bl_hi (fun z hz => mk_hi hm2n hz)] at ho
          exact ⟨by unfold s_be; rw [ho]; rfl, rfl⟩
        · skip
          have c2n : ¬ 7 ≤ p := fun zz => c2 ((nI_leI (a := 7) (b := p) (by omega) (by omega)).mpr zz)
          cases hs : m.testBit p with
          | false =>
            refine ev_iload_n dX0_believed_29 rfl rfl ?_
            refine ev_iload dX0_believed_30 rfl ?_
            refine ev_ishr (v := (nI m) >>> ((nI p) &&& 31)) dX0_believed_32 rfl ?_
            refine ev_iconst (v := 1) dX0_believed_33 (by decide) ?_
            refine ev_iand (v := 0) dX0_believed_34 (by rw [mk_bit hm31 (by omega), hs]; rfl) ?_
            refine ev_if_ne (tgt := 41) dX0_believed_35 (by decide) (fun c => absurd (by decide) c) (fun _ => ?_)
            refine ev_goto (tgt := 74) dX0_believed_38 (by decide) ?_
            refine ev_iinc (lv' := [(0, .ref 54), (1, .int (nI m)), (2, .int (nI q)), (3, .int (nI b)), (4, .int most), (5, .int (nI (p + 1)))]) (v := nI (p + 1)) dX0_believed_74 rfl (nI_1 _) (by decide) rfl ?_
            refine ev_goto (tgt := 22) dX0_believed_77 (by decide) ?_
            exact ih (p + 1) (nI b) most (by omega) (by rw [s_blF hs, ho]; rfl) (by intro b2 h2; rw [s_blF hs, ho] at h2; cases h2; exact hm2) (by omega)
          | true =>
            have hpn : p < s_np A := by rcases Nat.lt_or_ge p (s_np A) with z | z; exact z; rw [mk_hi hm2n z] at hs; cases hs
            refine ev_iload_n dX0_believed_29 rfl rfl ?_
            refine ev_iload dX0_believed_30 rfl ?_
            refine ev_ishr (v := (nI m) >>> ((nI p) &&& 31)) dX0_believed_32 rfl ?_
            refine ev_iconst (v := 1) dX0_believed_33 (by decide) ?_
            refine ev_iand (v := 1) dX0_believed_34 (by rw [mk_bit hm31 (by omega), hs]; rfl) ?_
            refine ev_if_ne (tgt := 41) dX0_believed_35 (by decide) (fun _ => ?_) (fun c => absurd c (by decide))
            refine ev_aload_n dX0_believed_41 rfl rfl ?_
            refine ev_getR (b := 55) dX0_believed_42 fl_X0_9 (ly_k hX.ly 54 rfl) (ly_r hX.ly 25 rfl) ?_
            refine ev_iload dX0_believed_45 rfl ?_
            refine ev_bipush (v := 8) dX0_believed_47 (by decide) ?_
            refine ev_imul (v := nI (8 * p)) dX0_believed_49 x_m8 ?_
            refine ev_iload_n dX0_believed_50 rfl rfl ?_
            refine ev_iadd (v := nI (8 * p + q)) dX0_believed_51 (nI_add (8 * p) q) ?_
            refine ev_iald (v := s_wt A p q) dX0_believed_52 (ly_k hX.ly 55 rfl) (am_ixn (by omega) (by decide)) (hc.w (by omega) (by omega)) ?_
            refine ev_istore (lv' := [(0, .ref 54), (1, .int (nI m)), (2, .int (nI q)), (3, .int (nI b)), (4, .int most), (5, .int (nI p)), (6, .int (s_wt A p q))]) dX0_believed_53 (by decide) rfl ?_
            refine ev_iload_n dX0_believed_55 rfl rfl ?_
            refine ev_iconst (v := (-1)) dX0_believed_56 (by decide) ?_
            refine ev_icmp_eq (tgt := 67) dX0_believed_57 (by decide) (fun c => absurd c (s_bi_n (by omega))) (fun _ => ?_)
            refine ev_iload dX0_believed_60 rfl ?_
            refine ev_iload dX0_believed_62 rfl ?_
            refine ev_icmp_le (tgt := 74) dX0_believed_64 (by decide) (fun c3 => ?_) (fun c3 => ?_)
            · skip
              have hlt : ¬ s_wt A b q < s_wt A p q := by rw [← hm2]; exact Int32.not_lt.mpr c3
              refine ev_iinc (lv' := [(0, .ref 54), (1, .int (nI m)), (2, .int (nI q)), (3, .int (nI b)), (4, .int most), (5, .int (nI (p + 1))), (6, .int (s_wt A p q))]) (v := nI (p + 1)) dX0_believed_74 rfl (nI_1 _) (by decide) rfl ?_
              refine ev_goto (tgt := 22) dX0_believed_77 (by decide) ?_
              refine ev_keep (lv' := [(0, .ref 54), (1, .int (nI m)), (2, .int (nI q)), (3, .int (nI b)), (4, .int most), (5, .int (nI (p + 1)))]) [0, 1, 2, 3, 4, 5] rfl ?_
              exact ih (p + 1) (nI b) most (by omega) (by rw [s_blL hs ho hlt]; rfl) (by intro b2 h2; rw [s_blL hs ho hlt] at h2; cases h2; exact hm2) (by omega)
            · skip
              have hlt : s_wt A b q < s_wt A p q := by rw [← hm2]; exact Int32.not_le.mp c3
              refine ev_iload dX0_believed_67 rfl ?_
              refine ev_istore_n (lv' := [(0, .ref 54), (1, .int (nI m)), (2, .int (nI q)), (3, .int (nI p)), (4, .int most), (5, .int (nI p)), (6, .int (s_wt A p q))]) dX0_believed_69 rfl (by decide) rfl ?_
              refine ev_iload dX0_believed_70 rfl ?_
              refine ev_istore (lv' := [(0, .ref 54), (1, .int (nI m)), (2, .int (nI q)), (3, .int (nI p)), (4, .int (s_wt A p q)), (5, .int (nI p)), (6, .int (s_wt A p q))]) dX0_believed_72 (by decide) rfl ?_
              refine ev_iinc (lv' := [(0, .ref 54), (1, .int (nI m)), (2, .int (nI q)), (3, .int (nI p)), (4, .int (s_wt A p q)), (5, .int (nI (p + 1))), (6, .int (s_wt A p q))]) (v := nI (p + 1)) dX0_believed_74 rfl (nI_1 _) (by decide) rfl ?_
              refine ev_goto (tgt := 22) dX0_believed_77 (by decide) ?_
              refine ev_keep (lv' := [(0, .ref 54), (1, .int (nI m)), (2, .int (nI q)), (3, .int (nI p)), (4, .int (s_wt A p q)), (5, .int (nI (p + 1)))]) [0, 1, 2, 3, 4, 5] rfl ?_
              exact ih (p + 1) (nI p) (s_wt A p q) (by omega) (by rw [s_blM hs ho hlt]; rfl) (by intro b2 h2; rw [s_blM hs ho hlt] at h2; cases h2; rfl) (by omega)
  refine ev_iload_n dX0_believed_0 rfl rfl ?_
  refine ev_if_lt (tgt := 12) dX0_believed_1 (by decide) (fun c => absurd c (nI_pos (by omega))) (fun _ => ?_)
  refine ev_iload_n dX0_believed_4 rfl rfl ?_
  refine ev_aload_n dX0_believed_5 rfl rfl ?_
  refine ev_getI (v := nI (s_nq A)) dX0_believed_6 fl_X0_36 (ly_k hX.ly 54 rfl) (hc.n.trans (wf_nq hA)) ?_
  refine ev_icmp_lt (tgt := 14) dX0_believed_9 (by decide) (fun _ => ?_) (fun c => absurd (nI_lt (by omega) (by omega)) c)
  refine ev_iconst (v := (-1)) dX0_believed_14 (by decide) ?_
  refine ev_istore_n (lv' := [(0, .ref 54), (1, .int (nI m)), (2, .int (nI q)), (3, .int (-1))]) dX0_believed_15 rfl (by decide) rfl ?_
  refine ev_iconst (v := 0) dX0_believed_16 (by decide) ?_
  refine ev_istore (lv' := [(0, .ref 54), (1, .int (nI m)), (2, .int (nI q)), (3, .int (-1)), (4, .int 0)]) dX0_believed_17 (by decide) rfl ?_
  refine ev_iconst (v := 0) dX0_believed_19 (by decide) ?_
  refine ev_istore (lv' := [(0, .ref 54), (1, .int (nI m)), (2, .int (nI q)), (3, .int (-1)), (4, .int 0), (5, .int 0)]) dX0_believed_20 (by decide) rfl ?_
  exact lp _ 0 (-1) 0 (Nat.zero_le _) rfl (fun b h => by cases h) (Nat.lt_succ_self _)

set_option maxHeartbeats 400000 in
set_option maxRecDepth 100000 in
theorem c_X0_ableOf (G : am_G) (D : Nat) (A : am_S) (σ : am_M) (hA : wf_A A) (hX : iv_X A σ) (m : Nat) (q : Nat) (hq : q < s_nq A) (hc : cb_X A σ) : am_Mt G D mX0_ableOf [.ref 54, .int (nI m), .int (nI q)] σ 0 0 (am_q (.int (nI (mk_m (fun p => m.testBit p && s_cn A p q) (s_np A)))) σ) := by
  have b7 := wf_np7 hA
  have b8 := wf_nq8 hA
  have b6 := wf_nt6 hA
  have b61 := wf_nt1 hA
  have b160 := wf_tp160 hA
  have brl := wf_rlt hA
  refine am_of moX0_ableOf (Nat.le_of_ble_eq_true rfl) ?_
  show am_Ev G mX0_ableOf (am_R D 0 0) 0 0 (am_q (.int (nI (mk_m (fun p => m.testBit p && s_cn A p q) (s_np A)))) σ) 0 [(0, .ref 54), (1, .int (nI m)), (2, .int (nI q))] [] σ 0 0
  refine ev_iload_n dX0_ableOf_0 rfl rfl ?_
  refine ev_if_lt (tgt := 23) dX0_ableOf_1 (by decide) (fun c => absurd c (nI_pos (by omega))) (fun _ => ?_)
  refine ev_iload_n dX0_ableOf_4 rfl rfl ?_
  refine ev_aload_n dX0_ableOf_5 rfl rfl ?_
  refine ev_getI (v := nI (s_nq A)) dX0_ableOf_6 fl_X0_36 (ly_k hX.ly 54 rfl) (hc.n.trans (wf_nq hA)) ?_
  refine ev_icmp_ge (tgt := 23) dX0_ableOf_9 (by decide) (fun c => absurd c (Int32.not_le.mpr (nI_lt (by omega) (by omega)))) (fun _ => ?_)
  refine ev_aload_n dX0_ableOf_12 rfl rfl ?_
  refine ev_getR (b := 56) dX0_ableOf_13 fl_X0_15 (ly_k hX.ly 54 rfl) (ly_r hX.ly 26 rfl) ?_
  refine ev_iload_n dX0_ableOf_16 rfl rfl ?_
  refine ev_iald (v := nI (mk_m (fun p => s_cn A p q) (s_np A))) dX0_ableOf_17 (ly_k hX.ly 56 rfl) (am_ixn (by omega) (by decide)) (hc.a (by omega)) ?_
  refine ev_iload_n dX0_ableOf_18 rfl rfl ?_
  refine ev_iand (v := nI (mk_m (fun p => m.testBit p && s_cn A p q) (s_np A))) dX0_ableOf_19 mk_and ?_
  refine ev_goto (tgt := 24) dX0_ableOf_20 (by decide) ?_
  refine ev_reti dX0_ableOf_24 rfl (Nat.zero_le _) (Nat.zero_le _) ?_
  exact ⟨rfl, rfl⟩

set_option maxHeartbeats 400000 in
set_option maxRecDepth 100000 in
theorem c_X0_coveredBy (G : am_G) (D : Nat) (A : am_S) (σ : am_M) (hA : wf_A A) (hX : iv_X A σ) (m : Nat) (hc : cb_X A σ) : am_Mt G (D + 1) mX0_coveredBy [.ref 54, .int (nI m)] σ 0 0 (am_q (.int (nI (s_cv A m))) σ) := by
  have b7 := wf_np7 hA
  have b8 := wf_nq8 hA
  have b6 := wf_nt6 hA
  have b61 := wf_nt1 hA
  have b160 := wf_tp160 hA
  have brl := wf_rlt hA
  refine am_of moX0_coveredBy (Nat.le_of_ble_eq_true rfl) ?_
  show am_Ev G mX0_coveredBy (am_R (D + 1) 0 0) 0 0 (am_q (.int (nI (s_cv A m))) σ) 0 [(0, .ref 54), (1, .int (nI m))] [] σ 0 0
  have lp : ∀ (f : Nat) (q : Nat) (fd : Int32), (q ≤ s_nq A) → (fd = nI (mk_m (fun q => s_an A m q (s_np A)) q)) → s_nq A - q < f → am_Ev G mX0_coveredBy (am_R (D + 1) 0 0) 0 0 (am_q (.int (nI (s_cv A m))) σ) 4 [(0, .ref 54), (1, .int (nI m)), (2, .int fd), (3, .int (nI q))] [] σ 0 0 := by
    intro f
    induction f with
    | zero => intro q fd hq hfd hf; exact absurd hf (Nat.not_lt_zero _)
    | succ f ih =>
      intro q fd hq hfd hf
      refine ev_iload_n dX0_coveredBy_4 rfl rfl ?_
      refine ev_aload_n dX0_coveredBy_5 rfl rfl ?_
      refine ev_getI (v := nI (s_nq A)) dX0_coveredBy_6 fl_X0_36 (ly_k hX.ly 54 rfl) (hc.n.trans (wf_nq hA)) ?_
      refine ev_icmp_ge (tgt := 33) dX0_coveredBy_9 (by decide) (fun c1 => ?_) (fun c1 => ?_)
      · skip
        have c1n : (s_nq A) ≤ q := (nI_leI (a := (s_nq A)) (b := q) (by omega) (by omega)).mp c1
        refine ev_iload_n dX0_coveredBy_33 rfl rfl ?_
        refine ev_reti dX0_coveredBy_34 rfl (Nat.zero_le _) (Nat.zero_le _) ?_
        have e : q = s_nq A := by omega
        subst e
        exact ⟨by rw [hfd]; rfl, rfl⟩
      · skip
        have c1n : ¬ (s_nq A) ≤ q := fun zz => c1 ((nI_leI (a := (s_nq A)) (b := q) (by omega) (by omega)).mpr zz)
        refine ev_aload_n dX0_coveredBy_12 rfl rfl ?_
        refine ev_iload_n dX0_coveredBy_13 rfl rfl ?_
        refine ev_iload_n dX0_coveredBy_14 rfl rfl ?_
        refine ev_callV (as := [.int (nI m), .int (nI q)]) (st := []) dX0_coveredBy_15 mfX0_ableOf lk_X0_60 (ly_k hX.ly 54 rfl) (by decide) rfl (c_X0_ableOf G D A σ hA hX m q (by omega) hc) rfl rfl (Nat.le_of_ble_eq_true rfl) (am_hR (by omega) (by decide)) ⟨Nat.le_refl _, Nat.le_refl _⟩ ?_
        rintro _ _ ⟨rfl, rfl⟩
        have hb31 := mk_31 (f := fun p => m.testBit p && s_cn A p q) (n := s_np A) (by omega)
        refine ev_if_eq (tgt := 27) dX0_coveredBy_18 (by decide) (fun c2 => ?_) (fun c2 => ?_)
        · skip
          have c2n : (mk_m (fun p => (m).testBit p && s_cn A p q) (s_np A)) = 0 := (nI_eq (a := (mk_m (fun p => (m).testBit p && s_cn A p q) (s_np A))) (b := 0) (by omega) (by omega)).mp c2
          refine ev_iinc (lv' := [(0, .ref 54), (1, .int (nI m)), (2, .int fd), (3, .int (nI (q + 1)))]) (v := nI (q + 1)) dX0_coveredBy_27 rfl (nI_1 _) (by decide) rfl ?_
          refine ev_goto (tgt := 4) dX0_coveredBy_30 (by decide) ?_
          exact ih (q + 1) fd (by omega) (by rw [hfd, mk_f (f := (fun q => s_an A m q (s_np A))) (n := q) (s_anF c2n)]) (by omega)
        · skip
          have c2n : ¬ (mk_m (fun p => (m).testBit p && s_cn A p q) (s_np A)) = 0 := fun zz => c2 ((nI_eq (a := (mk_m (fun p => (m).testBit p && s_cn A p q) (s_np A))) (b := 0) (by omega) (by omega)).mpr zz)
          refine ev_iload_n dX0_coveredBy_21 rfl rfl ?_
          refine ev_iconst (v := 1) dX0_coveredBy_22 (by decide) ?_
          refine ev_iload_n dX0_coveredBy_23 rfl rfl ?_
          refine ev_ishl (v := 1 <<< ((nI q) &&& 31)) dX0_coveredBy_24 rfl ?_
          refine ev_ior (v := fd ||| (1 <<< ((nI q) &&& 31))) dX0_coveredBy_25 rfl ?_
          refine ev_istore_n (lv' := [(0, .ref 54), (1, .int (nI m)), (2, .int (fd ||| (1 <<< ((nI q) &&& 31)))), (3, .int (nI q))]) dX0_coveredBy_26 rfl (by decide) rfl ?_
          refine ev_iinc (lv' := [(0, .ref 54), (1, .int (nI m)), (2, .int (fd ||| (1 <<< ((nI q) &&& 31)))), (3, .int (nI (q + 1)))]) (v := nI (q + 1)) dX0_coveredBy_27 rfl (nI_1 _) (by decide) rfl ?_
          refine ev_goto (tgt := 4) dX0_coveredBy_30 (by decide) ?_
          exact ih (q + 1) (fd ||| (1 <<< ((nI q) &&& 31))) (by omega) (by rw [hfd, mk_o1 (by omega), mk_t (f := (fun q => s_an A m q (s_np A))) (n := q) (s_anT c2n)]) (by omega)
  refine ev_iconst (v := 0) dX0_coveredBy_0 (by decide) ?_
  refine ev_istore_n (lv' := [(0, .ref 54), (1, .int (nI m)), (2, .int 0)]) dX0_coveredBy_1 rfl (by decide) rfl ?_
  refine ev_iconst (v := 0) dX0_coveredBy_2 (by decide) ?_
  refine ev_istore_n (lv' := [(0, .ref 54), (1, .int (nI m)), (2, .int 0), (3, .int 0)]) dX0_coveredBy_3 rfl (by decide) rfl ?_
  exact lp _ 0 0 (Nat.zero_le _) rfl (Nat.lt_succ_self _)

set_option maxHeartbeats 400000 in
set_option maxRecDepth 100000 in
theorem c_X0_rightOf (G : am_G) (D : Nat) (A : am_S) (σ : am_M) (hA : wf_A A) (hX : iv_X A σ) (m : Nat) (hm2n : m < 2 ^ s_np A) (hc : cb_X A σ) : am_Mt G (D + 1) mX0_rightOf [.ref 54, .int (nI m)] σ 0 0 (am_q (.int (nI (mk_m (s_rt A (fun p => m.testBit p)) (s_nq A)))) σ) := by
  have b7 := wf_np7 hA
  have b8 := wf_nq8 hA
  have b6 := wf_nt6 hA
  have b61 := wf_nt1 hA
  have b160 := wf_tp160 hA
  have brl := wf_rlt hA
  refine am_of moX0_rightOf (Nat.le_of_ble_eq_true rfl) ?_
  show am_Ev G mX0_rightOf (am_R (D + 1) 0 0) 0 0 (am_q (.int (nI (mk_m (s_rt A (fun p => m.testBit p)) (s_nq A)))) σ) 0 [(0, .ref 54), (1, .int (nI m))] [] σ 0 0
  have lp : ∀ (f : Nat) (q : Nat) (fd : Int32), (q ≤ s_nq A) → (fd = nI (mk_m (s_rt A (fun p => m.testBit p)) q)) → s_nq A - q < f → am_Ev G mX0_rightOf (am_R (D + 1) 0 0) 0 0 (am_q (.int (nI (mk_m (s_rt A (fun p => m.testBit p)) (s_nq A)))) σ) 4 [(0, .ref 54), (1, .int (nI m)), (2, .int fd), (3, .int (nI q))] [] σ 0 0 := by
    intro f
    induction f with
    | zero => intro q fd hq hfd hf; exact absurd hf (Nat.not_lt_zero _)
    | succ f ih =>
      intro q fd hq hfd hf
      refine ev_iload_n dX0_rightOf_4 rfl rfl ?_
      refine ev_aload_n dX0_rightOf_5 rfl rfl ?_
      refine ev_getI (v := nI (s_nq A)) dX0_rightOf_6 fl_X0_36 (ly_k hX.ly 54 rfl) (hc.n.trans (wf_nq hA)) ?_
      refine ev_icmp_ge (tgt := 53) dX0_rightOf_9 (by decide) (fun c1 => ?_) (fun c1 => ?_)
      · skip
        have c1n : (s_nq A) ≤ q := (nI_leI (a := (s_nq A)) (b := q) (by omega) (by omega)).mp c1
        refine ev_iload_n dX0_rightOf_53 rfl rfl ?_
        refine ev_reti dX0_rightOf_54 rfl (Nat.zero_le _) (Nat.zero_le _) ?_
        have e : q = s_nq A := by omega
        subst e
        exact ⟨by rw [hfd], rfl⟩
      · skip
        have c1n : ¬ (s_nq A) ≤ q := fun zz => c1 ((nI_leI (a := (s_nq A)) (b := q) (by omega) (by omega)).mpr zz)
        refine ev_aload_n dX0_rightOf_12 rfl rfl ?_
        refine ev_iload_n dX0_rightOf_13 rfl rfl ?_
        refine ev_iload_n dX0_rightOf_14 rfl rfl ?_
        refine ev_callV (as := [.int (nI m), .int (nI q)]) (st := []) dX0_rightOf_15 mfX0_believed lk_X0_63 (ly_k hX.ly 54 rfl) (by decide) rfl (c_X0_believed G D A σ hA hX m hm2n q (by omega) hc) rfl rfl (Nat.le_of_ble_eq_true rfl) (am_hR (by omega) (by decide)) ⟨Nat.le_refl _, Nat.le_refl _⟩ ?_
        rintro _ _ ⟨rfl, rfl⟩
        refine ev_istore (lv' := [(0, .ref 54), (1, .int (nI m)), (2, .int fd), (3, .int (nI q)), (4, .int (s_bi (s_be A (fun p => (m).testBit p) q)))]) dX0_rightOf_18 (by decide) rfl ?_
        cases ho : s_be A (fun p => m.testBit p) q with
        | none =>
          change am_Ev G mX0_rightOf (am_R (D + 1) 0 0) 0 0 (am_q (.int (nI (mk_m (s_rt A (fun p => m.testBit p)) (s_nq A)))) σ) 20 [(0, .ref 54), (1, .int (nI m)), (2, .int fd), (3, .int (nI q)), (4, .int (-1))] [] σ 0 0
          refine ev_iload dX0_rightOf_20 rfl ?_
          refine ev_iconst (v := (-1)) dX0_rightOf_22 (by decide) ?_
          refine ev_icmp_eq (tgt := 47) dX0_rightOf_23 (by decide) (fun _ => ?_) (fun c => absurd (by decide) c)
          refine ev_iinc (lv' := [(0, .ref 54), (1, .int (nI m)), (2, .int fd), (3, .int (nI (q + 1))), (4, .int (-1))]) (v := nI (q + 1)) dX0_rightOf_47 rfl (nI_1 _) (by decide) rfl ?_
          refine ev_goto (tgt := 4) dX0_rightOf_50 (by decide) ?_
          refine ev_keep (lv' := [(0, .ref 54), (1, .int (nI m)), (2, .int fd), (3, .int (nI (q + 1)))]) [0, 1, 2, 3] rfl ?_
          exact ih (q + 1) fd (by omega) (by rw [hfd, mk_f (f := (s_rt A (fun p => m.testBit p))) (n := q) (s_rtN ho)]) (by omega)
        | some b =>
          have hbl : b < s_np A := (s_bllt (n := s_np A) ho).1
          change am_Ev G mX0_rightOf (am_R (D + 1) 0 0) 0 0 (am_q (.int (nI (mk_m (s_rt A (fun p => m.testBit p)) (s_nq A)))) σ) 20 [(0, .ref 54), (1, .int (nI m)), (2, .int fd), (3, .int (nI q)), (4, .int (nI b))] [] σ 0 0
          cases hcn : s_cn A b q with
          | false =>
            refine ev_iload dX0_rightOf_20 rfl ?_
            refine ev_iconst (v := (-1)) dX0_rightOf_22 (by decide) ?_
            refine ev_icmp_eq (tgt := 47) dX0_rightOf_23 (by decide) (fun c => absurd c (s_bi_n (by omega))) (fun _ => ?_)
            refine ev_aload_n dX0_rightOf_26 rfl rfl ?_
            refine ev_getR (b := 56) dX0_rightOf_27 fl_X0_15 (ly_k hX.ly 54 rfl) (ly_r hX.ly 26 rfl) ?_
            refine ev_iload_n dX0_rightOf_30 rfl rfl ?_
            refine ev_iald (v := nI (mk_m (fun p => s_cn A p q) (s_np A))) dX0_rightOf_31 (ly_k hX.ly 56 rfl) (am_ixn (by omega) (by decide)) (hc.a (by omega)) ?_
            refine ev_iload dX0_rightOf_32 rfl ?_
            refine ev_ishr (v := (nI (mk_m (fun p => s_cn A p q) (s_np A))) >>> ((nI b) &&& 31)) dX0_rightOf_34 rfl ?_
            refine ev_iconst (v := 1) dX0_rightOf_35 (by decide) ?_
            refine ev_iand (v := 0) dX0_rightOf_36 (by rw [mk_get (by omega) hbl, hcn]; rfl) ?_
            refine ev_iconst (v := 1) dX0_rightOf_37 (by decide) ?_
            refine ev_icmp_ne (tgt := 47) dX0_rightOf_38 (by decide) (fun _ => ?_) (fun c => absurd c (by decide))
            refine ev_iinc (lv' := [(0, .ref 54), (1, .int (nI m)), (2, .int fd), (3, .int (nI (q + 1))), (4, .int (nI b))]) (v := nI (q + 1)) dX0_rightOf_47 rfl (nI_1 _) (by decide) rfl ?_
            refine ev_goto (tgt := 4) dX0_rightOf_50 (by decide) ?_
            refine ev_keep (lv' := [(0, .ref 54), (1, .int (nI m)), (2, .int fd), (3, .int (nI (q + 1)))]) [0, 1, 2, 3] rfl ?_
            exact ih (q + 1) fd (by omega) (by rw [hfd, mk_f (f := (s_rt A (fun p => m.testBit p))) (n := q) ((s_rtB ho).trans hcn)]) (by omega)
          | true =>
            refine ev_iload dX0_rightOf_20 rfl ?_
            refine ev_iconst (v := (-1)) dX0_rightOf_22 (by decide) ?_
            refine ev_icmp_eq (tgt := 47) dX0_rightOf_23 (by decide) (fun c => absurd c (s_bi_n (by omega))) (fun _ => ?_)
            refine ev_aload_n dX0_rightOf_26 rfl rfl ?_
            refine ev_getR (b := 56) dX0_rightOf_27 fl_X0_15 (ly_k hX.ly 54 rfl) (ly_r hX.ly 26 rfl) ?_
            refine ev_iload_n dX0_rightOf_30 rfl rfl ?_
            refine ev_iald (v := nI (mk_m (fun p => s_cn A p q) (s_np A))) dX0_rightOf_31 (ly_k hX.ly 56 rfl) (am_ixn (by omega) (by decide)) (hc.a (by omega)) ?_
            refine ev_iload dX0_rightOf_32 rfl ?_
            refine ev_ishr (v := (nI (mk_m (fun p => s_cn A p q) (s_np A))) >>> ((nI b) &&& 31)) dX0_rightOf_34 rfl ?_
            refine ev_iconst (v := 1) dX0_rightOf_35 (by decide) ?_
            refine ev_iand (v := 1) dX0_rightOf_36 (by rw [mk_get (by omega) hbl, hcn]; rfl) ?_
            refine ev_iconst (v := 1) dX0_rightOf_37 (by decide) ?_
            refine ev_icmp_ne (tgt := 47) dX0_rightOf_38 (by decide) (fun c => absurd (by decide) c) (fun _ => ?_)
            refine ev_iload_n dX0_rightOf_41 rfl rfl ?_
            refine ev_iconst (v := 1) dX0_rightOf_42 (by decide) ?_
            refine ev_iload_n dX0_rightOf_43 rfl rfl ?_
            refine ev_ishl (v := 1 <<< ((nI q) &&& 31)) dX0_rightOf_44 rfl ?_
            refine ev_ior (v := fd ||| (1 <<< ((nI q) &&& 31))) dX0_rightOf_45 rfl ?_
            refine ev_istore_n (lv' := [(0, .ref 54), (1, .int (nI m)), (2, .int (fd ||| (1 <<< ((nI q) &&& 31)))), (3, .int (nI q)), (4, .int (nI b))]) dX0_rightOf_46 rfl (by decide) rfl ?_
            refine ev_iinc (lv' := [(0, .ref 54), (1, .int (nI m)), (2, .int (fd ||| (1 <<< ((nI q) &&& 31)))), (3, .int (nI (q + 1))), (4, .int (nI b))]) (v := nI (q + 1)) dX0_rightOf_47 rfl (nI_1 _) (by decide) rfl ?_
            refine ev_goto (tgt := 4) dX0_rightOf_50 (by decide) ?_
            refine ev_keep (lv' := [(0, .ref 54), (1, .int (nI m)), (2, .int (fd ||| (1 <<< ((nI q) &&& 31)))), (3, .int (nI (q + 1)))]) [0, 1, 2, 3] rfl ?_
            exact ih (q + 1) (fd ||| (1 <<< ((nI q) &&& 31))) (by omega) (by rw [hfd, mk_o1 (by omega), mk_t (f := (s_rt A (fun p => m.testBit p))) (n := q) ((s_rtB ho).trans hcn)]) (by omega)
  refine ev_iconst (v := 0) dX0_rightOf_0 (by decide) ?_
  refine ev_istore_n (lv' := [(0, .ref 54), (1, .int (nI m)), (2, .int 0)]) dX0_rightOf_1 rfl (by decide) rfl ?_
  refine ev_iconst (v := 0) dX0_rightOf_2 (by decide) ?_
  refine ev_istore_n (lv' := [(0, .ref 54), (1, .int (nI m)), (2, .int 0), (3, .int 0)]) dX0_rightOf_3 rfl (by decide) rfl ?_
  exact lp _ 0 0 (Nat.zero_le _) rfl (Nat.lt_succ_self _)

set_option maxHeartbeats 400000 in
set_option maxRecDepth 100000 in
theorem c_X0_worth (G : am_G) (D : Nat) (A : am_S) (σ : am_M) (hA : wf_A A) (hX : iv_X A σ) (r : Nat) (hr : r < 2 ^ 31) (j : Int32) (hc : cb_X A σ) : am_Mt G D mX0_worth [.ref 54, .int (nI r), .int j] σ 0 0 (am_q (.int (s_wo A (fun q => r.testBit q) j (s_nq A))) σ) := by
  have b7 := wf_np7 hA
  have b8 := wf_nq8 hA
  have b6 := wf_nt6 hA
  have b61 := wf_nt1 hA
  have b160 := wf_tp160 hA
  have brl := wf_rlt hA
  refine am_of moX0_worth (Nat.le_of_ble_eq_true rfl) ?_
  show am_Ev G mX0_worth (am_R D 0 0) 0 0 (am_q (.int (s_wo A (fun q => r.testBit q) j (s_nq A))) σ) 0 [(0, .ref 54), (1, .int (nI r)), (2, .int j)] [] σ 0 0
  have lp : ∀ (f : Nat) (q : Nat) (sm : Int32), (q ≤ s_nq A) → (sm = s_wo A (fun q => r.testBit q) j q) → s_nq A - q < f → am_Ev G mX0_worth (am_R D 0 0) 0 0 (am_q (.int (s_wo A (fun q => r.testBit q) j (s_nq A))) σ) 5 [(0, .ref 54), (1, .int (nI r)), (2, .int j), (3, .int sm), (4, .int (nI q))] [] σ 0 0 := by
    intro f
    induction f with
    | zero => intro q sm hq hsm hf; exact absurd hf (Nat.not_lt_zero _)
    | succ f ih =>
      intro q sm hq hsm hf
      refine ev_iload dX0_worth_5 rfl ?_
      refine ev_aload_n dX0_worth_7 rfl rfl ?_
      refine ev_getI (v := nI (s_nq A)) dX0_worth_8 fl_X0_36 (ly_k hX.ly 54 rfl) (hc.n.trans (wf_nq hA)) ?_
      refine ev_icmp_ge (tgt := 60) dX0_worth_11 (by decide) (fun c1 => ?_) (fun c1 => ?_)
      · skip
        have c1n : (s_nq A) ≤ q := (nI_leI (a := (s_nq A)) (b := q) (by omega) (by omega)).mp c1
        refine ev_iload_n dX0_worth_60 rfl rfl ?_
        refine ev_reti dX0_worth_61 rfl (Nat.zero_le _) (Nat.zero_le _) ?_
        have e : q = s_nq A := by omega
        subst e
        exact ⟨by rw [hsm], rfl⟩
      · skip
        have c1n : ¬ (s_nq A) ≤ q := fun zz => c1 ((nI_leI (a := (s_nq A)) (b := q) (by omega) (by omega)).mpr zz)
        cases hs : r.testBit q with
        | false =>
          refine ev_iload_n dX0_worth_14 rfl rfl ?_
          refine ev_iload dX0_worth_15 rfl ?_
          refine ev_ishr (v := (nI r) >>> ((nI q) &&& 31)) dX0_worth_17 rfl ?_
          refine ev_iconst (v := 1) dX0_worth_18 (by decide) ?_
          refine ev_iand (v := 0) dX0_worth_19 (by rw [mk_bit hr (by omega), hs]; rfl) ?_
          refine ev_if_ne (tgt := 26) dX0_worth_20 (by decide) (fun c => absurd (by decide) c) (fun _ => ?_)
          refine ev_goto (tgt := 54) dX0_worth_23 (by decide) ?_
          refine ev_iinc (lv' := [(0, .ref 54), (1, .int (nI r)), (2, .int j), (3, .int sm), (4, .int (nI (q + 1)))]) (v := nI (q + 1)) dX0_worth_54 rfl (nI_1 _) (by decide) rfl ?_
          refine ev_goto (tgt := 5) dX0_worth_57 (by decide) ?_
          exact ih (q + 1) sm (by omega) (by rw [hsm, s_woF (f := fun q => r.testBit q) hs]) (by omega)
        | true =>
          refine ev_iload_n dX0_worth_14 rfl rfl ?_
          refine ev_iload dX0_worth_15 rfl ?_
          refine ev_ishr (v := (nI r) >>> ((nI q) &&& 31)) dX0_worth_17 rfl ?_
          refine ev_iconst (v := 1) dX0_worth_18 (by decide) ?_
          refine ev_iand (v := 1) dX0_worth_19 (by rw [mk_bit hr (by omega), hs]; rfl) ?_
          refine ev_if_ne (tgt := 26) dX0_worth_20 (by decide) (fun _ => ?_) (fun c => absurd c (by decide))
          refine ev_iload_n dX0_worth_26 rfl rfl ?_
          refine ev_iload dX0_worth_27 rfl ?_
          refine ev_iload_n dX0_worth_29 rfl rfl ?_
          refine ev_icmp_ne (tgt := 45) dX0_worth_30 (by decide) (fun c2 => ?_) (fun c2 => ?_)
          · skip
            refine ev_aload_n dX0_worth_45 rfl rfl ?_
            refine ev_getR (b := 57) dX0_worth_46 fl_X0_18 (ly_k hX.ly 54 rfl) (ly_r hX.ly 27 rfl) ?_
            refine ev_iload dX0_worth_49 rfl ?_
            refine ev_iald (v := s_pt A q) dX0_worth_51 (ly_k hX.ly 57 rfl) (am_ixn (by omega) (by decide)) (hc.p (by omega)) ?_
            refine ev_iadd (v := sm + (s_pt A q)) dX0_worth_52 rfl ?_
            refine ev_istore_n (lv' := [(0, .ref 54), (1, .int (nI r)), (2, .int j), (3, .int (sm + (s_pt A q))), (4, .int (nI q))]) dX0_worth_53 rfl (by decide) rfl ?_
            refine ev_iinc (lv' := [(0, .ref 54), (1, .int (nI r)), (2, .int j), (3, .int (sm + (s_pt A q))), (4, .int (nI (q + 1)))]) (v := nI (q + 1)) dX0_worth_54 rfl (nI_1 _) (by decide) rfl ?_
            refine ev_goto (tgt := 5) dX0_worth_57 (by decide) ?_
            exact ih (q + 1) (sm + (s_pt A q)) (by omega) (by rw [hsm, s_woT (f := fun q => r.testBit q) hs, if_neg (fun z => c2 z.symm)]) (by omega)
          · skip
            refine ev_iconst (v := 2) dX0_worth_33 (by decide) ?_
            refine ev_aload_n dX0_worth_34 rfl rfl ?_
            refine ev_getR (b := 57) dX0_worth_35 fl_X0_18 (ly_k hX.ly 54 rfl) (ly_r hX.ly 27 rfl) ?_
            refine ev_iload dX0_worth_38 rfl ?_
            refine ev_iald (v := s_pt A q) dX0_worth_40 (ly_k hX.ly 57 rfl) (am_ixn (by omega) (by decide)) (hc.p (by omega)) ?_
            refine ev_imul (v := 2 * (s_pt A q)) dX0_worth_41 rfl ?_
            refine ev_goto (tgt := 52) dX0_worth_42 (by decide) ?_
            refine ev_iadd (v := sm + (2 * (s_pt A q))) dX0_worth_52 rfl ?_
            refine ev_istore_n (lv' := [(0, .ref 54), (1, .int (nI r)), (2, .int j), (3, .int (sm + (2 * (s_pt A q)))), (4, .int (nI q))]) dX0_worth_53 rfl (by decide) rfl ?_
            refine ev_iinc (lv' := [(0, .ref 54), (1, .int (nI r)), (2, .int j), (3, .int (sm + (2 * (s_pt A q)))), (4, .int (nI (q + 1)))]) (v := nI (q + 1)) dX0_worth_54 rfl (nI_1 _) (by decide) rfl ?_
            refine ev_goto (tgt := 5) dX0_worth_57 (by decide) ?_
            exact ih (q + 1) (sm + (2 * (s_pt A q))) (by omega) (by rw [hsm, s_woT (f := fun q => r.testBit q) hs, if_pos c2.symm]) (by omega)
  refine ev_iconst (v := 0) dX0_worth_0 (by decide) ?_
  refine ev_istore_n (lv' := [(0, .ref 54), (1, .int (nI r)), (2, .int j), (3, .int 0)]) dX0_worth_1 rfl (by decide) rfl ?_
  refine ev_iconst (v := 0) dX0_worth_2 (by decide) ?_
  refine ev_istore (lv' := [(0, .ref 54), (1, .int (nI r)), (2, .int j), (3, .int 0), (4, .int 0)]) dX0_worth_3 (by decide) rfl ?_
  exact lp _ 0 0 (Nat.zero_le _) rfl (Nat.lt_succ_self _)

set_option maxHeartbeats 400000 in
set_option maxRecDepth 100000 in
theorem c_X6_seatedAt (G : am_G) (D : Nat) (A : am_S) (σ : am_M) (hA : wf_A A) (hX : iv_X A σ) (T : Nat) : am_Mt G (D + 1) mX6_seatedAt [.ref 32, .int (nI T)] σ 0 0 (am_q (.int (nI (mk_m (s_se A T) (s_np A)))) σ) := by
  have b7 := wf_np7 hA
  have b8 := wf_nq8 hA
  have b6 := wf_nt6 hA
  have b61 := wf_nt1 hA
  have b160 := wf_tp160 hA
  have brl := wf_rlt hA
  refine am_of moX6_seatedAt (Nat.le_of_ble_eq_true rfl) ?_
  show am_Ev G mX6_seatedAt (am_R (D + 1) 0 0) 0 0 (am_q (.int (nI (mk_m (s_se A T) (s_np A)))) σ) 0 [(0, .ref 32), (1, .int (nI T))] [] σ 0 0
  have lp : ∀ (f : Nat) (q : Nat) (fd : Int32), (q ≤ s_np A) → (fd = nI (mk_m (s_se A T) q)) → s_np A - q < f → am_Ev G mX6_seatedAt (am_R (D + 1) 0 0) 0 0 (am_q (.int (nI (mk_m (s_se A T) (s_np A)))) σ) 4 [(0, .ref 32), (1, .int (nI T)), (2, .int fd), (3, .int (nI q))] [] σ 0 0 := by
    intro f
    induction f with
    | zero => intro q fd hq hfd hf; exact absurd hf (Nat.not_lt_zero _)
    | succ f ih =>
      intro q fd hq hfd hf
      refine ev_iload_n dX6_seatedAt_4 rfl rfl ?_
      refine ev_aload_n dX6_seatedAt_5 rfl rfl ?_
      refine ev_getI (v := nI (s_np A)) dX6_seatedAt_6 fl_X6_85 (ly_k hX.ly 32 rfl) (hX.f12.trans (wf_np hA)) ?_
      refine ev_icmp_ge (tgt := 45) dX6_seatedAt_9 (by decide) (fun c1 => ?_) (fun c1 => ?_)
      · skip
        have c1n : (s_np A) ≤ q := (nI_leI (a := (s_np A)) (b := q) (by omega) (by omega)).mp c1
        refine ev_iload_n dX6_seatedAt_45 rfl rfl ?_
        refine ev_reti dX6_seatedAt_46 rfl (Nat.zero_le _) (Nat.zero_le _) ?_
        have e : q = s_np A := by omega
        subst e
        exact ⟨by rw [hfd], rfl⟩
      · skip
        have c1n : ¬ (s_np A) ≤ q := fun zz => c1 ((nI_leI (a := (s_np A)) (b := q) (by omega) (by omega)).mpr zz)
        refine ev_aload_n dX6_seatedAt_12 rfl rfl ?_
        refine ev_iload_n dX6_seatedAt_13 rfl rfl ?_
        have hp2 : q < s_np A := by omega
        obtain ⟨g2, hg2⟩ := hX.ge hp2
        have h92 := hX.g9 hp2 hg2
        refine ev_callV (as := [.int (nI q)]) (st := []) dX6_seatedAt_14 mfX6_personAt lk_X6_128 (ly_k hX.ly 32 rfl) (by decide) rfl (c_X6_personAtN G D A σ hA hX q g2 hp2 hg2) rfl rfl (Nat.le_of_ble_eq_true rfl) (am_hR (by omega) (by decide)) ⟨Nat.le_refl _, Nat.le_refl _⟩ ?_
        rintro _ _ ⟨rfl, rfl⟩
        refine ev_astore (lv' := [(0, .ref 32), (1, .int (nI T)), (2, .int fd), (3, .int (nI q)), (4, .ref g2)]) dX6_seatedAt_17 (by decide) rfl ?_
        refine ev_aload dX6_seatedAt_19 rfl ?_
        refine ev_ifnullR dX6_seatedAt_21 ?_
        refine ev_aload dX6_seatedAt_24 rfl ?_
        refine ev_getI (v := A 69 q) dX6_seatedAt_26 fl_X6_143 (hX.gk hp2 hg2) (hX.g4 hp2 hg2) ?_
        refine ev_iload_n dX6_seatedAt_29 rfl rfl ?_
        refine ev_icmp_ne (tgt := 39) dX6_seatedAt_30 (by decide) (fun c3 => ?_) (fun c3 => ?_)
        · skip
          refine ev_iinc (lv' := [(0, .ref 32), (1, .int (nI T)), (2, .int fd), (3, .int (nI (q + 1))), (4, .ref g2)]) (v := nI (q + 1)) dX6_seatedAt_39 rfl (nI_1 _) (by decide) rfl ?_
          refine ev_goto (tgt := 4) dX6_seatedAt_42 (by decide) ?_
          refine ev_keep (lv' := [(0, .ref 32), (1, .int (nI T)), (2, .int fd), (3, .int (nI (q + 1)))]) [0, 1, 2, 3] rfl ?_
          exact ih (q + 1) fd (by omega) (by rw [hfd, mk_f (f := (s_se A T)) (n := q) (show s_se A T q = false by unfold s_se; exact decide_eq_false c3)]) (by omega)
        · skip
          refine ev_iload_n dX6_seatedAt_33 rfl rfl ?_
          refine ev_iconst (v := 1) dX6_seatedAt_34 (by decide) ?_
          refine ev_iload_n dX6_seatedAt_35 rfl rfl ?_
          refine ev_ishl (v := 1 <<< ((nI q) &&& 31)) dX6_seatedAt_36 rfl ?_
          refine ev_ior (v := fd ||| (1 <<< ((nI q) &&& 31))) dX6_seatedAt_37 rfl ?_
          refine ev_istore_n (lv' := [(0, .ref 32), (1, .int (nI T)), (2, .int (fd ||| (1 <<< ((nI q) &&& 31)))), (3, .int (nI q)), (4, .ref g2)]) dX6_seatedAt_38 rfl (by decide) rfl ?_
          refine ev_iinc (lv' := [(0, .ref 32), (1, .int (nI T)), (2, .int (fd ||| (1 <<< ((nI q) &&& 31)))), (3, .int (nI (q + 1))), (4, .ref g2)]) (v := nI (q + 1)) dX6_seatedAt_39 rfl (nI_1 _) (by decide) rfl ?_
          refine ev_goto (tgt := 4) dX6_seatedAt_42 (by decide) ?_
          refine ev_keep (lv' := [(0, .ref 32), (1, .int (nI T)), (2, .int (fd ||| (1 <<< ((nI q) &&& 31)))), (3, .int (nI (q + 1)))]) [0, 1, 2, 3] rfl ?_
          exact ih (q + 1) (fd ||| (1 <<< ((nI q) &&& 31))) (by omega) (by rw [hfd, mk_o1 (by omega), mk_t (f := (s_se A T)) (n := q) (show s_se A T q = true by unfold s_se; exact decide_eq_true c3)]) (by omega)
  refine ev_iconst (v := 0) dX6_seatedAt_0 (by decide) ?_
  refine ev_istore_n (lv' := [(0, .ref 32), (1, .int (nI T)), (2, .int 0)]) dX6_seatedAt_1 rfl (by decide) rfl ?_
  refine ev_iconst (v := 0) dX6_seatedAt_2 (by decide) ?_
  refine ev_istore_n (lv' := [(0, .ref 32), (1, .int (nI T)), (2, .int 0), (3, .int 0)]) dX6_seatedAt_3 rfl (by decide) rfl ?_
  exact lp _ 0 0 (Nat.zero_le _) rfl (Nat.lt_succ_self _)

