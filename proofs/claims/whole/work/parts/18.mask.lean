/-! sets of small numbers as masks -/
def mk_m (f : Nat → Bool) : Nat → Nat
  | 0 => 0
  | n + 1 => mk_m f n ||| (if f n then 2 ^ n else 0)
theorem mk_tb (f : Nat → Bool) (n k : Nat) : (mk_m f n).testBit k = (decide (k < n) && f k) := by
  induction n with
  | zero => simp [mk_m]
  | succ n ih =>
    show (mk_m f n ||| (if f n then 2 ^ n else 0)).testBit k = _
    rw [Nat.testBit_or, ih]
    by_cases hk : k = n
    · subst hk
      cases hf : f k <;> simp
    · have e : decide (k < n + 1) = decide (k < n) := by
        by_cases h : k < n
        · simp [h, Nat.lt_succ_of_lt h]
        · have : ¬ k < n + 1 := by omega
          simp [h, this]
      rw [e]
      cases hf : f n <;> simp [Nat.testBit_two_pow, Ne.symm hk]
theorem mk_lt (f : Nat → Bool) (n : Nat) : mk_m f n < 2 ^ n := by
  induction n with
  | zero => exact Nat.one_pos
  | succ n ih =>
    show (mk_m f n ||| (if f n then 2 ^ n else 0)) < 2 ^ (n + 1)
    have h1 : mk_m f n < 2 ^ (n + 1) := Nat.lt_trans ih (Nat.pow_lt_pow_right (by decide) (Nat.lt_succ_self n))
    refine Nat.or_lt_two_pow h1 ?_
    split
    · exact Nat.pow_lt_pow_right (by decide) (Nat.lt_succ_self n)
    · exact Nat.pos_of_ne_zero (by simp)
theorem mk_ext {f g : Nat → Bool} {n : Nat} (h : ∀ k, k < n → f k = g k) : mk_m f n = mk_m g n := by
  apply Nat.eq_of_testBit_eq
  intro k
  rw [mk_tb, mk_tb]
  by_cases hk : k < n
  · simp [h k hk]
  · simp [hk]
theorem mk_s (f : Nat → Bool) (n : Nat) : mk_m f (n + 1) = mk_m f n ||| (if f n then 2 ^ n else 0) := rfl
theorem mk_t {f : Nat → Bool} {n : Nat} (h : f n = true) : mk_m f n ||| 2 ^ n = mk_m f (n + 1) := by rw [mk_s, h]; rfl
theorem mk_f {f : Nat → Bool} {n : Nat} (h : f n = false) : mk_m f n = mk_m f (n + 1) := by rw [mk_s, h]; simp
theorem mk_1s {p : Nat} (h : p < 31) : (1 : Int32) <<< (nI p &&& 31) = nI (2 ^ p) := by
  have h1 : (1 : Int32) = nI 1 := rfl
  rw [h1, pk_shlN (nI p &&& 31) p (s_l p (by omega)) (by rw [Nat.one_mul]; exact Nat.pow_lt_pow_right (by decide) (by omega)), Nat.one_mul]
theorem mk_o1 {m p : Nat} (h : p < 31) : nI m ||| ((1 : Int32) <<< (nI p &&& 31)) = nI (m ||| 2 ^ p) := by rw [mk_1s h, fa_or]
theorem mk_bit {m q : Nat} (hm : m < 2 ^ 31) (hq : q < 31) : (nI m >>> (nI q &&& 31)) &&& 1 = nI (if m.testBit q then 1 else 0) := by
  rw [pk_shrN hm (nI q &&& 31) q (s_l q (by omega))]
  have e := pk_andN (n := m / 2 ^ q) (m := 1) (Nat.lt_of_le_of_lt (Nat.div_le_self _ _) (by omega)) 1 (by decide)
  rw [e, Nat.testBit_eq_decide_div_mod_eq]
  congr 1
  have := Nat.mod_lt (m / 2 ^ q) (show 2 ^ 1 > 0 by decide)
  by_cases h : m / 2 ^ q % 2 = 1
  · simp [h]
  · have h0 : m / 2 ^ q % 2 = 0 := by omega
    simp [h0]
theorem mk_0 (m : Nat) : nI m ||| 0 = nI m := by
  have e : (0 : Int32) = nI 0 := rfl
  rw [e, fa_or, Nat.or_zero]
theorem mk_31 {f : Nat → Bool} {n : Nat} (h : n ≤ 31) : mk_m f n < 2 ^ 31 := Nat.lt_of_lt_of_le (mk_lt f n) (Nat.pow_le_pow_right (by decide) h)
theorem mk_get {f : Nat → Bool} {n q : Nat} (hn : n ≤ 31) (hq : q < n) : (nI (mk_m f n) >>> (nI q &&& 31)) &&& 1 = nI (if f q then 1 else 0) := by
  rw [mk_bit (mk_31 hn) (by omega), mk_tb]
  simp [hq]
theorem mk_eq {f g : Nat → Bool} {n : Nat} : mk_m f n = mk_m g n ↔ ∀ k, k < n → f k = g k := by
  constructor
  · intro h k hk
    have := congrArg (fun m => m.testBit k) h
    simp only [mk_tb, hk, decide_true, Bool.true_and] at this
    exact this
  · exact mk_ext
