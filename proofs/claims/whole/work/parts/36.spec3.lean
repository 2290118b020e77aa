/-! whom a table believes, scores: how they grow -/
def s_bi (o : Option Nat) : Int32 := match o with
  | none => -1
  | some p => nI p
theorem s_bi_n {p : Nat} (h : p < 2 ^ 31) : ¬ nI p = -1 := by
  intro e
  have := congrArg Int32.toInt e
  rw [nI_toInt h] at this
  have e1 : (-1 : Int32).toInt = -1 := by decide
  omega
theorem s_bl0 {A : am_S} {S : Nat → Bool} {q : Nat} : s_bl A S q 0 = none := rfl
theorem s_blF {A : am_S} {S : Nat → Bool} {q n : Nat} (h : S n = false) : s_bl A S q (n + 1) = s_bl A S q n := by
  show (if S n then _ else _) = _
  rw [h]
  rfl
theorem s_blN {A : am_S} {S : Nat → Bool} {q n : Nat} (h : S n = true) (h2 : s_bl A S q n = none) : s_bl A S q (n + 1) = some n := by
  show (if S n then _ else _) = _
  rw [h, h2]
  rfl
theorem s_blM {A : am_S} {S : Nat → Bool} {q n b : Nat} (h : S n = true) (h2 : s_bl A S q n = some b) (h3 : s_wt A b q < s_wt A n q) : s_bl A S q (n + 1) = some n := by
  show (if S n then _ else _) = _
  rw [h, h2]
  show (if s_wt A b q < s_wt A n q then some n else some b) = some n
  rw [if_pos h3]
theorem s_blL {A : am_S} {S : Nat → Bool} {q n b : Nat} (h : S n = true) (h2 : s_bl A S q n = some b) (h3 : ¬ s_wt A b q < s_wt A n q) : s_bl A S q (n + 1) = some b := by
  show (if S n then _ else _) = _
  rw [h, h2]
  show (if s_wt A b q < s_wt A n q then some n else some b) = some b
  rw [if_neg h3]
theorem s_bllt {A : am_S} {S : Nat → Bool} {q : Nat} : ∀ {n b : Nat}, s_bl A S q n = some b → b < n ∧ S b = true := by
  intro n
  induction n with
  | zero => intro b h; cases h
  | succ n ih =>
    intro b h
    cases hS : S n with
    | false =>
      rw [s_blF hS] at h
      exact ⟨by have := (ih h).1; omega, (ih h).2⟩
    | true =>
      cases hb : s_bl A S q n with
      | none =>
        rw [s_blN hS hb] at h
        cases h
        exact ⟨Nat.lt_succ_self _, hS⟩
      | some c =>
        by_cases h3 : s_wt A c q < s_wt A n q
        · rw [s_blM hS hb h3] at h
          cases h
          exact ⟨Nat.lt_succ_self _, hS⟩
        · rw [s_blL hS hb h3] at h
          cases h
          exact ⟨by have := (ih hb).1; omega, (ih hb).2⟩
theorem s_bl_cg {A : am_S} {S S' : Nat → Bool} {q : Nat} : ∀ {n : Nat}, (∀ p, p < n → S p = S' p) → s_bl A S q n = s_bl A S' q n := by
  intro n
  induction n with
  | zero => intro _; rfl
  | succ n ih =>
    intro h
    show (if S n then _ else _) = (if S' n then _ else _)
    rw [h n (Nat.lt_succ_self n), ih (fun p hp => h p (Nat.lt_succ_of_lt hp))]
theorem s_rt_cg {A : am_S} {S S' : Nat → Bool} {q : Nat} (h : ∀ p, p < s_np A → S p = S' p) : s_rt A S q = s_rt A S' q := by
  unfold s_rt s_be
  rw [s_bl_cg h]
theorem s_wo_cg {A : am_S} {f g : Nat → Bool} {j : Int32} : ∀ {n : Nat}, (∀ q, q < n → f q = g q) → s_wo A f j n = s_wo A g j n := by
  intro n
  induction n with
  | zero => intro _; rfl
  | succ n ih =>
    intro h
    show s_wo A f j n + _ = s_wo A g j n + _
    rw [h n (Nat.lt_succ_self n), ih (fun p hp => h p (Nat.lt_succ_of_lt hp))]
theorem s_woT {A : am_S} {f : Nat → Bool} {j : Int32} {n : Nat} (h : f n = true) : s_wo A f j (n + 1) = s_wo A f j n + (if j = nI n then 2 * s_pt A n else s_pt A n) := by
  show s_wo A f j n + _ = _
  rw [h]
  rfl
theorem s_woF {A : am_S} {f : Nat → Bool} {j : Int32} {n : Nat} (h : f n = false) : s_wo A f j (n + 1) = s_wo A f j n := by
  show s_wo A f j n + _ = _
  rw [h]
  show s_wo A f j n + 0 = _
  exact Int32.add_zero _
theorem s_rtB {A : am_S} {S : Nat → Bool} {q : Nat} {b : Nat} (h : s_be A S q = some b) : s_rt A S q = s_cn A b q := by
  unfold s_rt
  rw [h]
theorem s_rtN {A : am_S} {S : Nat → Bool} {q : Nat} (h : s_be A S q = none) : s_rt A S q = false := by
  unfold s_rt
  rw [h]
def s_ps2 (A : am_S) (T q : Nat) : Int32 := if s_rt A (s_se A T) q then (if A 73 T = nI q then 2 * s_pt A q else s_pt A q) else 0
theorem s_all {n : Nat} (h : n ≤ 8) : (1 : Int32) <<< (nI n &&& 31) - 1 = nI (2 ^ n - 1) := by
  have e : (1 : Int32) = nI 1 := rfl
  have h2 : 2 ^ n ≥ 1 := Nat.one_le_two_pow
  rw [mk_1s (by omega)]
  exact pk_sub h2
theorem s_allT {n q : Nat} (h : q < n) : (2 ^ n - 1).testBit q = true := by
  rw [Nat.testBit_two_pow_sub_one]
  simp [h]
theorem s_scT {A : am_S} {S : Nat → Bool} {j : Int32} : s_sc A S j (fun q => (2 ^ s_nq A - 1).testBit q) = s_sc A S j (fun _ => true) := by
  unfold s_sc
  refine s_wo_cg (fun q hq => ?_)
  show ((2 ^ s_nq A - 1).testBit q && _) = (true && _)
  rw [s_allT hq]
def s_kg (A : am_S) (T q : Nat) : Nat := mk_m (fun p => s_se A T p && s_cn A p q) (s_np A)
def sp_answer (A : am_S) (t q w : Int32) : Int32 := if am_in t 3 && am_in q (s_nq A) then (if w = 0 then s_bi (s_be A (s_se A (sN t)) (sN q)) else if w = 1 then (if s_rt A (s_se A (sN t)) (sN q) then 1 else 0) else if w = 2 then nI (s_kg A (sN t) (sN q)) else -7) else -5
/-- questions right; those missed though anybody there knows -/
def s_rs (A : am_S) (T : Nat) : Nat := mk_m (s_rt A (s_se A T)) (s_nq A)
def s_ms (A : am_S) (T : Nat) : Nat := mk_m (fun q => !s_rt A (s_se A T) q && decide (s_kg A T q ≠ 0)) (s_nq A)
def sp_score (A : am_S) (t w : Int32) : Int32 := if am_in t 3 then (if w = 0 then s_now A (sN t) else if w = 1 then nI (s_rs A (sN t)) else if w = 2 then nI (s_ms A (sN t)) else -7) else -5
def s_dv (x : Int32) : Int32 := x / 10
def s_md (x : Int32) : Int32 := x - x / 10 * 10
def sp_asks (A : am_S) (part da l tr w : Int32) : Int32 := if am_in part 3 && (am_in da 100 && (am_in l 100 && (am_in tr 40 && am_in w 7))) then s_as A (sN part) (s_nm (da / 10) (da - da / 10 * 10) l (tr / 10) (tr - tr / 10 * 10) w) else -2
