/-! facts on masks, counts, scores' bounds, how the searches grow -/
theorem mk_neg {n m : Nat} (h : n ≤ 31) : nI (2 ^ n - 1) &&& (nI m ^^^ (-1)) = nI (mk_m (fun q => !m.testBit q) n) := by
  apply Int32.toBitVec_inj.1
  show BitVec.ofNat 32 (2 ^ n - 1) &&& (BitVec.ofNat 32 m ^^^ (-1 : Int32).toBitVec) = BitVec.ofNat 32 (mk_m (fun q => !m.testBit q) n)
  have e : (-1 : Int32).toBitVec = BitVec.allOnes 32 := by decide
  rw [e]
  apply BitVec.eq_of_getLsbD_eq
  intro i hi
  rw [BitVec.getLsbD_and, BitVec.getLsbD_xor, BitVec.getLsbD_allOnes, BitVec.getLsbD_ofNat, BitVec.getLsbD_ofNat, BitVec.getLsbD_ofNat, mk_tb, Nat.testBit_two_pow_sub_one, decide_eq_true hi, Bool.true_and, Bool.true_and, Bool.true_and, Bool.xor_true]
theorem s_alO {A : am_S} {a b : Nat} (h : s_nq A ≤ 8) : nI (2 ^ s_nq A - 1) &&& ((nI (s_rs A a) ||| nI (s_rs A b)) ^^^ (-1)) = nI (s_al A a b true) := by
  rw [fa_or, mk_neg (by omega)]
  unfold s_al s_rs
  congr 1
  refine mk_ext (fun q hq => ?_)
  simp [Nat.testBit_or, mk_tb, hq]
theorem s_alA {A : am_S} {a b : Nat} (h : s_nq A ≤ 8) : nI (2 ^ s_nq A - 1) &&& ((nI (s_rs A a) &&& nI (s_rs A b)) ^^^ (-1)) = nI (s_al A a b false) := by
  rw [fa_and, mk_neg (by omega)]
  unfold s_al s_rs
  congr 1
  refine mk_ext (fun q hq => ?_)
  simp [Nat.testBit_and, mk_tb, hq]
theorem s_pcle (m : Nat) : ∀ n, s_pc m n ≤ n
  | 0 => Nat.le_refl _
  | n + 1 => by
    have := s_pcle m n
    show s_pc m n + (if m.testBit n then 1 else 0) ≤ n + 1
    split <;> omega
theorem s_on12 (m : Nat) : s_on m ≤ 12 := s_pcle m 12
theorem s_pc0 {m : Nat} : ∀ {n : Nat}, s_pc m n = 0 → ∀ k, k < n → m.testBit k = false := by
  intro n
  induction n with
  | zero => intro _ k hk; omega
  | succ n ih =>
    intro h k hk
    have h2 : s_pc m n + (if m.testBit n then 1 else 0) = 0 := h
    rcases Nat.lt_or_ge k n with q | q
    · exact ih (by omega) k q
    · have : k = n := by omega
      subst this
      cases e : m.testBit k with
      | false => rfl
      | true => rw [e] at h2; simp at h2
theorem s_on0 {m : Nat} (h : m < 2 ^ 12) (h2 : s_on m = 0) : m = 0 := by
  apply Nat.eq_of_testBit_eq
  intro i
  rw [Nat.zero_testBit]
  rcases Nat.lt_or_ge i 12 with q | q
  · exact s_pc0 h2 i q
  · exact Nat.testBit_lt_two_pow (Nat.lt_of_lt_of_le h (Nat.pow_le_pow_right (by decide) q))
theorem s_pcS {m n : Nat} : s_pc m (n + 1) = s_pc m n + (if m.testBit n then 1 else 0) := rfl
/-- bounds of scores -/
theorem am_bdR {x : Int32} : ∃ k, k ≤ 99 ∧ am_bd x 0 99 = nI k := by
  unfold am_bd
  by_cases h : x < 0
  · exact ⟨0, by decide, if_pos h⟩
  · rw [if_neg h]
    by_cases h2 : 99 < x
    · exact ⟨99, by decide, if_pos h2⟩
    · rw [if_neg h2]
      obtain ⟨j, hj, rfl⟩ := (am_rgl (n := 100) (c := 99) (by decide)).mp ⟨Int32.not_lt.mp h, Int32.not_lt.mp h2⟩
      exact ⟨j, by omega, rfl⟩
theorem s_ptR (A : am_S) (q : Nat) : ∃ k, k ≤ 99 ∧ s_pt A q = nI k := by
  unfold s_pt s_as
  rw [if_neg (by decide)]
  exact am_bdR
theorem s_woR (A : am_S) (f : Nat → Bool) (j : Int32) : ∀ n, ∃ k, k ≤ 198 * n ∧ s_wo A f j n = nI k
  | 0 => ⟨0, Nat.zero_le _, rfl⟩
  | n + 1 => by
    obtain ⟨k, hk, e⟩ := s_woR A f j n
    obtain ⟨p, hp, e2⟩ := s_ptR A n
    show ∃ k, k ≤ 198 * (n + 1) ∧ s_wo A f j n + (if f n then (if j = nI n then 2 * s_pt A n else s_pt A n) else 0) = nI k
    rw [e, e2]
    by_cases h : f n = true
    · rw [if_pos h]
      by_cases h2 : j = nI n
      · rw [if_pos h2]
        exact ⟨k + 2 * p, by omega, by rw [show (2 : Int32) = nI 2 from rfl, pk_mul, nI_add]⟩
      · rw [if_neg h2]
        exact ⟨k + p, by omega, nI_add _ _⟩
    · rw [if_neg h]
      exact ⟨k, by omega, Int32.add_zero _⟩
theorem s_scR {A : am_S} (h : s_nq A ≤ 8) (S : Nat → Bool) (j : Int32) (F : Nat → Bool) : ∃ k, k ≤ 1584 ∧ s_sc A S j F = nI k := by
  obtain ⟨k, hk, e⟩ := s_woR A (fun q => F q && s_rt A S q) j (s_nq A)
  exact ⟨k, by omega, e⟩
theorem s_mxN {a b : Nat} (ha : a < 2 ^ 31) (hb : b < 2 ^ 31) : s_mx (nI a) (nI b) = nI (max a b) := by
  unfold s_mx
  by_cases h : a < b
  · rw [if_pos ((nI_ltI ha hb).mpr h), Nat.max_eq_right (by omega)]
  · rw [if_neg (fun z => h ((nI_ltI ha hb).mp z)), Nat.max_eq_left (by omega)]
theorem s_mnN {a b : Nat} (ha : a < 2 ^ 31) (hb : b < 2 ^ 31) : s_mn (nI a) (nI b) = nI (min a b) := by
  unfold s_mn
  by_cases h : b < a
  · rw [if_pos ((nI_ltI hb ha).mpr h), Nat.min_eq_right (by omega)]
  · rw [if_neg (fun z => h ((nI_ltI hb ha).mp z)), Nat.min_eq_left (by omega)]
theorem s_apR {A : am_S} (h : s_nq A ≤ 8) (F : Nat → Bool) : ∃ k, k ≤ 1584 ∧ s_ap A F = nI k := by
  obtain ⟨a, ha, e1⟩ := s_scR h (s_se A 0) (A 73 0) F
  obtain ⟨b, hb, e2⟩ := s_scR h (s_se A 1) (A 73 1) F
  obtain ⟨c, hc, e3⟩ := s_scR h (s_se A 2) (A 73 2) F
  refine ⟨max (max a b) c - min (min a b) c, by omega, ?_⟩
  unfold s_ap s_scF s_a3
  rw [e1, e2, e3, s_mxN (by omega) (by omega), s_mxN (by omega) (by omega), s_mnN (by omega) (by omega), s_mnN (by omega) (by omega), pk_sub (by omega)]
theorem s_ap_n {A : am_S} (h : s_nq A ≤ 8) (F : Nat → Bool) : ¬ s_ap A F = -1 := by
  obtain ⟨k, hk, e⟩ := s_apR h F
  rw [e]
  exact s_bi_n (by omega)
/-- who covers -/
theorem s_anY {A : am_S} {m q n : Nat} (h1 : m.testBit n = true) (h2 : s_cn A n q = true) (M : Nat) : nI (M ||| (if s_an A m q n then 2 ^ q else 0)) ||| nI (2 ^ q) = nI (M ||| (if s_an A m q (n + 1) then 2 ^ q else 0)) := by
  have e : s_an A m q (n + 1) = true := by
    show (s_an A m q n || (m.testBit n && s_cn A n q)) = true
    rw [h1, h2]
    simp
  rw [e, fa_or, if_pos rfl]
  congr 1
  apply Nat.eq_of_testBit_eq
  intro i
  split
  · rw [Nat.testBit_or, Nat.testBit_or, Bool.or_assoc, Bool.or_self]
  · rw [Nat.or_zero]
theorem s_anN {A : am_S} {m q n : Nat} (h : m.testBit n = false ∨ s_cn A n q = false) (M : Nat) : nI (M ||| (if s_an A m q n then 2 ^ q else 0)) = nI (M ||| (if s_an A m q (n + 1) then 2 ^ q else 0)) := by
  have e : s_an A m q (n + 1) = s_an A m q n := by
    show (s_an A m q n || (m.testBit n && s_cn A n q)) = _
    rcases h with h | h <;> rw [h] <;> simp
  rw [e]
theorem s_an0 (M q : Nat) (A : am_S) (m : Nat) : nI M = nI (M ||| (if s_an A m q 0 then 2 ^ q else 0)) := by
  show nI M = nI (M ||| (if false = true then 2 ^ q else 0))
  rw [if_neg (by decide), Nat.or_zero]
theorem s_coN1 {A : am_S} {n : Nat} (h : s_co A n = none) (h2 : s_cv A n = s_cv A (2 ^ s_np A - 1)) : s_co A (n + 1) = some n := by
  show (match s_co A n with
    | none => if s_cv A n = s_cv A (2 ^ s_np A - 1) then some n else none
    | some b => if s_on n < s_on b ∧ s_cv A n = s_cv A (2 ^ s_np A - 1) then some n else some b) = _
  rw [h]
  exact if_pos h2
theorem s_coN0 {A : am_S} {n : Nat} (h : s_co A n = none) (h2 : ¬ s_cv A n = s_cv A (2 ^ s_np A - 1)) : s_co A (n + 1) = none := by
  show (match s_co A n with
    | none => if s_cv A n = s_cv A (2 ^ s_np A - 1) then some n else none
    | some b => if s_on n < s_on b ∧ s_cv A n = s_cv A (2 ^ s_np A - 1) then some n else some b) = _
  rw [h]
  exact if_neg h2
theorem s_coB1 {A : am_S} {n b : Nat} (h : s_co A n = some b) (h2 : s_on n < s_on b ∧ s_cv A n = s_cv A (2 ^ s_np A - 1)) : s_co A (n + 1) = some n := by
  show (match s_co A n with
    | none => if s_cv A n = s_cv A (2 ^ s_np A - 1) then some n else none
    | some b => if s_on n < s_on b ∧ s_cv A n = s_cv A (2 ^ s_np A - 1) then some n else some b) = _
  rw [h]
  exact if_pos h2
theorem s_coB0 {A : am_S} {n b : Nat} (h : s_co A n = some b) (h2 : ¬ (s_on n < s_on b ∧ s_cv A n = s_cv A (2 ^ s_np A - 1))) : s_co A (n + 1) = some b := by
  show (match s_co A n with
    | none => if s_cv A n = s_cv A (2 ^ s_np A - 1) then some n else none
    | some b => if s_on n < s_on b ∧ s_cv A n = s_cv A (2 ^ s_np A - 1) then some n else some b) = _
  rw [h]
  exact if_neg h2
theorem s_colt {A : am_S} : ∀ {n b : Nat}, s_co A n = some b → b < n := by
  intro n
  induction n with
  | zero => intro b h; cases h
  | succ n ih =>
    intro b h
    cases hc : s_co A n with
    | none =>
      by_cases h2 : s_cv A n = s_cv A (2 ^ s_np A - 1)
      · rw [s_coN1 hc h2] at h; cases h; omega
      · rw [s_coN0 hc h2] at h; cases h
    | some c =>
      by_cases h2 : s_on n < s_on c ∧ s_cv A n = s_cv A (2 ^ s_np A - 1)
      · rw [s_coB1 hc h2] at h; cases h; omega
      · rw [s_coB0 hc h2] at h; cases h; have := ih hc; omega
theorem s_co_all {A : am_S} : ∃ b, b < 2 ^ s_np A ∧ s_co A (2 ^ s_np A) = some b := by
  cases h : s_co A (2 ^ s_np A) with
  | some b => exact ⟨b, s_colt h, rfl⟩
  | none =>
    exfalso
    have hp : 2 ^ s_np A = (2 ^ s_np A - 1) + 1 := by have := Nat.two_pow_pos (s_np A); omega
    rw [hp] at h
    cases hc : s_co A (2 ^ s_np A - 1) with
    | none => rw [s_coN1 hc rfl] at h; cases h
    | some c =>
      by_cases h2 : s_on (2 ^ s_np A - 1) < s_on c ∧ s_cv A (2 ^ s_np A - 1) = s_cv A (2 ^ s_np A - 1)
      · rw [s_coB1 hc h2] at h; cases h
      · rw [s_coB0 hc h2] at h; cases h
theorem s_cv31 {A : am_S} (h : s_nq A ≤ 8) (m : Nat) : s_cv A m < 2 ^ 31 := mk_31 (by omega)
/-- who is hired -/
theorem s_hiF {A : am_S} {T n : Nat} {c : Int32} (h : ¬ (A 69 n = -1 ∧ s_pr A n ≤ c)) : s_hi A T c (n + 1) = s_hi A T c n := if_neg h
theorem s_hiY {A : am_S} {T n : Nat} {c : Int32} (h : A 69 n = -1 ∧ s_pr A n ≤ c) (h2 : (s_hi A T c n).2.1 < s_wi A T n (nI T) ∨ ((s_hi A T c n).1 ≠ none ∧ s_wi A T n (nI T) = (s_hi A T c n).2.1 ∧ s_pr A n < (s_hi A T c n).2.2)) : s_hi A T c (n + 1) = (some n, s_wi A T n (nI T), s_pr A n) := (if_pos h).trans (if_pos h2)
theorem s_hiN {A : am_S} {T n : Nat} {c : Int32} (h2 : ¬ ((s_hi A T c n).2.1 < s_wi A T n (nI T) ∨ ((s_hi A T c n).1 ≠ none ∧ s_wi A T n (nI T) = (s_hi A T c n).2.1 ∧ s_pr A n < (s_hi A T c n).2.2))) : s_hi A T c (n + 1) = s_hi A T c n := by
  by_cases h : A 69 n = -1 ∧ s_pr A n ≤ c
  · exact (if_pos h).trans (if_neg h2)
  · exact if_neg h
/-- which questions -/
theorem s_clF {A : am_S} {k n : Nat} (h : ¬ s_on n = k) : s_cl A k (n + 1) = s_cl A k n := if_neg h
theorem s_clN {A : am_S} {k n : Nat} (h : s_on n = k) (h2 : s_cl A k n = none) : s_cl A k (n + 1) = some n := by
  refine (if_pos h).trans ?_
  rw [h2]
theorem s_clY {A : am_S} {k n b : Nat} (h : s_on n = k) (h2 : s_cl A k n = some b) (h3 : s_ap A (fun q => n.testBit q) < s_ap A (fun q => b.testBit q)) : s_cl A k (n + 1) = some n := by
  refine (if_pos h).trans ?_
  rw [h2]
  exact if_pos h3
theorem s_clK {A : am_S} {k n b : Nat} (h : s_on n = k) (h2 : s_cl A k n = some b) (h3 : ¬ s_ap A (fun q => n.testBit q) < s_ap A (fun q => b.testBit q)) : s_cl A k (n + 1) = some b := by
  refine (if_pos h).trans ?_
  rw [h2]
  exact if_neg h3
theorem s_cllt {A : am_S} {k : Nat} : ∀ {n b : Nat}, s_cl A k n = some b → b < n := by
  intro n
  induction n with
  | zero => intro b h; cases h
  | succ n ih =>
    intro b h
    by_cases h1 : s_on n = k
    · cases hc : s_cl A k n with
      | none => rw [s_clN h1 hc] at h; cases h; omega
      | some c =>
        by_cases h3 : s_ap A (fun q => n.testBit q) < s_ap A (fun q => c.testBit q)
        · rw [s_clY h1 hc h3] at h; cases h; omega
        · rw [s_clK h1 hc h3] at h; cases h; have := ih hc; omega
    · rw [s_clF h1] at h; have := ih h; omega
/-- good ones -/
theorem s_g1S {A : am_S} {q a b : Nat} {x : Int32} : s_g1 A q a x (b + 1) = s_g1 A q a x b + s_pg A q a b := rfl
theorem s_snP {x : Int32} (h : 0 < x) : s_sn x = 1 := if_pos h
theorem s_snM {x : Int32} (h : ¬ 0 < x) (h2 : x < 0) : s_sn x = -1 := (if_neg h).trans (if_pos h2)
theorem s_snZ {x : Int32} (h : ¬ 0 < x) (h2 : ¬ x < 0) : s_sn x = 0 := (if_neg h).trans (if_neg h2)
theorem s_pg0 {A : am_S} {q a b : Nat} (h : ¬ (a ≠ b ∧ s_rt A (s_se A a) q = true ∧ ¬ s_rt A (s_se A b) q = true)) : s_pg A q a b = 0 := if_neg h
theorem s_pg1 {A : am_S} {q a b : Nat} (h : a ≠ b ∧ s_rt A (s_se A a) q = true ∧ ¬ s_rt A (s_se A b) q = true) : s_pg A q a b = s_sn (s_now A a - s_ps2 A a q - s_now A b) := if_pos h
/-- lowest terms -/
theorem lg_ne0 {n : Nat} (h : n < 2 ^ 63) : lg_cmp (lN n) 0 = 0 ↔ n = 0 := by
  have e : (0 : Int64) = lN 0 := rfl
  unfold lg_cmp
  rw [e]
  by_cases h0 : n = 0
  · subst h0; decide
  · have h1 : ¬ lN n < lN 0 := fun z => by have := (pk_lLT h (by decide)).mp z; omega
    have h2 : lN 0 < lN n := (pk_lLT (by decide) h).mpr (by omega)
    have h3 : ¬ lN n = lN 0 := fun z => h0 ((pk_lEQ h (by decide)).mp z)
    constructor
    · intro z
      exfalso
      revert z
      split <;> (try split) <;> simp_all
    · intro z; exact absurd z h0
