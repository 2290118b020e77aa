/-! methods without memory -/
set_option maxHeartbeats 400000 in
set_option maxRecDepth 100000 in
theorem c_X6_isByte (G : am_G) (D : Nat) (σ : am_M) (v : Int32) : am_Mt G D mX6_isByte [.int v] σ 0 0 (am_zq (am_rg v 256) σ) := by
  refine am_of moX6_isByte (Nat.le_of_ble_eq_true rfl) ?_
  show am_Ev G mX6_isByte (am_R D 0 0) 0 0 _ 0 [(0, .int v)] [] σ 0 0
  refine ev_iload_n dX6_isByte_0 rfl rfl ?_
  refine ev_if_lt (tgt := 15) dX6_isByte_1 (by decide) (fun c1 => ?_) (fun c1 => ?_)
  · skip
    refine ev_iconst (v := 0) dX6_isByte_15 (by decide) ?_
    refine ev_retz dX6_isByte_16 rfl (Or.inl rfl) (Nat.zero_le _) (Nat.zero_le _) ?_
    exact Or.inr ⟨by rw [am_rgt (by decide)]; simp only [Int32.lt_iff_toInt_lt, Int32.le_iff_toInt_le, Int32.reduceToInt] at *; omega, rfl, rfl⟩
  · skip
    refine ev_iload_n dX6_isByte_4 rfl rfl ?_
    refine ev_sipush (v := 255) dX6_isByte_5 (by decide) ?_
    refine ev_icmp_gt (tgt := 15) dX6_isByte_8 (by decide) (fun c2 => ?_) (fun c2 => ?_)
    · skip
      refine ev_iconst (v := 0) dX6_isByte_15 (by decide) ?_
      refine ev_retz dX6_isByte_16 rfl (Or.inl rfl) (Nat.zero_le _) (Nat.zero_le _) ?_
      exact Or.inr ⟨by rw [am_rgt (by decide)]; simp only [Int32.lt_iff_toInt_lt, Int32.le_iff_toInt_le, Int32.reduceToInt] at *; omega, rfl, rfl⟩
    · skip
      refine ev_iconst (v := 1) dX6_isByte_11 (by decide) ?_
      refine ev_goto (tgt := 16) dX6_isByte_12 (by decide) ?_
      refine ev_retz dX6_isByte_16 rfl (Or.inr rfl) (Nat.zero_le _) (Nat.zero_le _) ?_
      exact Or.inl ⟨by rw [am_rgt (by decide)]; simp only [Int32.lt_iff_toInt_lt, Int32.le_iff_toInt_le, Int32.reduceToInt] at *; omega, rfl, rfl⟩

set_option maxHeartbeats 400000 in
set_option maxRecDepth 100000 in
theorem c_X6_isZeroOrOne (G : am_G) (D : Nat) (σ : am_M) (v : Int32) : am_Mt G D mX6_isZeroOrOne [.int v] σ 0 0 (am_zq (v = 0 ∨ v = 1) σ) := by
  refine am_of moX6_isZeroOrOne (Nat.le_of_ble_eq_true rfl) ?_
  show am_Ev G mX6_isZeroOrOne (am_R D 0 0) 0 0 _ 0 [(0, .int v)] [] σ 0 0
  refine ev_iload_n dX6_isZeroOrOne_0 rfl rfl ?_
  refine ev_if_eq (tgt := 9) dX6_isZeroOrOne_1 (by decide) (fun c1 => ?_) (fun c1 => ?_)
  · skip
    refine ev_iconst (v := 1) dX6_isZeroOrOne_9 (by decide) ?_
    refine ev_goto (tgt := 14) dX6_isZeroOrOne_10 (by decide) ?_
    refine ev_retz dX6_isZeroOrOne_14 rfl (Or.inr rfl) (Nat.zero_le _) (Nat.zero_le _) ?_
    exact Or.inl ⟨by simp_all, rfl, rfl⟩
  · skip
    refine ev_iload_n dX6_isZeroOrOne_4 rfl rfl ?_
    refine ev_iconst (v := 1) dX6_isZeroOrOne_5 (by decide) ?_
    refine ev_icmp_ne (tgt := 13) dX6_isZeroOrOne_6 (by decide) (fun c2 => ?_) (fun c2 => ?_)
    · skip
      refine ev_iconst (v := 0) dX6_isZeroOrOne_13 (by decide) ?_
      refine ev_retz dX6_isZeroOrOne_14 rfl (Or.inl rfl) (Nat.zero_le _) (Nat.zero_le _) ?_
      exact Or.inr ⟨by simp_all, rfl, rfl⟩
    · skip
      refine ev_iconst (v := 1) dX6_isZeroOrOne_9 (by decide) ?_
      refine ev_goto (tgt := 14) dX6_isZeroOrOne_10 (by decide) ?_
      refine ev_retz dX6_isZeroOrOne_14 rfl (Or.inr rfl) (Nat.zero_le _) (Nat.zero_le _) ?_
      exact Or.inl ⟨by simp_all, rfl, rfl⟩

set_option maxHeartbeats 400000 in
set_option maxRecDepth 100000 in
theorem c_X6_isTopic (G : am_G) (D : Nat) (σ : am_M) (v : Int32) : am_Mt G D mX6_isTopic [.int v] σ 0 0 (am_zq (am_rg v 4) σ) := by
  refine am_of moX6_isTopic (Nat.le_of_ble_eq_true rfl) ?_
  show am_Ev G mX6_isTopic (am_R D 0 0) 0 0 _ 0 [(0, .int v)] [] σ 0 0
  refine ev_iload_n dX6_isTopic_0 rfl rfl ?_
  refine ev_if_lt (tgt := 13) dX6_isTopic_1 (by decide) (fun c1 => ?_) (fun c1 => ?_)
  · skip
    refine ev_iconst (v := 0) dX6_isTopic_13 (by decide) ?_
    refine ev_retz dX6_isTopic_14 rfl (Or.inl rfl) (Nat.zero_le _) (Nat.zero_le _) ?_
    exact Or.inr ⟨by rw [am_rgt (by decide)]; simp only [Int32.lt_iff_toInt_lt, Int32.le_iff_toInt_le, Int32.reduceToInt] at *; omega, rfl, rfl⟩
  · skip
    refine ev_iload_n dX6_isTopic_4 rfl rfl ?_
    refine ev_iconst (v := 4) dX6_isTopic_5 (by decide) ?_
    refine ev_icmp_ge (tgt := 13) dX6_isTopic_6 (by decide) (fun c2 => ?_) (fun c2 => ?_)
    · skip
      refine ev_iconst (v := 0) dX6_isTopic_13 (by decide) ?_
      refine ev_retz dX6_isTopic_14 rfl (Or.inl rfl) (Nat.zero_le _) (Nat.zero_le _) ?_
      exact Or.inr ⟨by rw [am_rgt (by decide)]; simp only [Int32.lt_iff_toInt_lt, Int32.le_iff_toInt_le, Int32.reduceToInt] at *; omega, rfl, rfl⟩
    · skip
      refine ev_iconst (v := 1) dX6_isTopic_9 (by decide) ?_
      refine ev_goto (tgt := 14) dX6_isTopic_10 (by decide) ?_
      refine ev_retz dX6_isTopic_14 rfl (Or.inr rfl) (Nat.zero_le _) (Nat.zero_le _) ?_
      exact Or.inl ⟨by rw [am_rgt (by decide)]; simp only [Int32.lt_iff_toInt_lt, Int32.le_iff_toInt_le, Int32.reduceToInt] at *; omega, rfl, rfl⟩

set_option maxHeartbeats 400000 in
set_option maxRecDepth 100000 in
theorem c_X6_isTable (G : am_G) (D : Nat) (σ : am_M) (v : Int32) : am_Mt G D mX6_isTable [.int v] σ 0 0 (am_zq (am_rg v 3) σ) := by
  refine am_of moX6_isTable (Nat.le_of_ble_eq_true rfl) ?_
  show am_Ev G mX6_isTable (am_R D 0 0) 0 0 _ 0 [(0, .int v)] [] σ 0 0
  refine ev_iload_n dX6_isTable_0 rfl rfl ?_
  refine ev_if_lt (tgt := 13) dX6_isTable_1 (by decide) (fun c1 => ?_) (fun c1 => ?_)
  · skip
    refine ev_iconst (v := 0) dX6_isTable_13 (by decide) ?_
    refine ev_retz dX6_isTable_14 rfl (Or.inl rfl) (Nat.zero_le _) (Nat.zero_le _) ?_
    exact Or.inr ⟨by rw [am_rgt (by decide)]; simp only [Int32.lt_iff_toInt_lt, Int32.le_iff_toInt_le, Int32.reduceToInt] at *; omega, rfl, rfl⟩
  · skip
    refine ev_iload_n dX6_isTable_4 rfl rfl ?_
    refine ev_iconst (v := 3) dX6_isTable_5 (by decide) ?_
    refine ev_icmp_ge (tgt := 13) dX6_isTable_6 (by decide) (fun c2 => ?_) (fun c2 => ?_)
    · skip
      refine ev_iconst (v := 0) dX6_isTable_13 (by decide) ?_
      refine ev_retz dX6_isTable_14 rfl (Or.inl rfl) (Nat.zero_le _) (Nat.zero_le _) ?_
      exact Or.inr ⟨by rw [am_rgt (by decide)]; simp only [Int32.lt_iff_toInt_lt, Int32.le_iff_toInt_le, Int32.reduceToInt] at *; omega, rfl, rfl⟩
    · skip
      refine ev_iconst (v := 1) dX6_isTable_9 (by decide) ?_
      refine ev_goto (tgt := 14) dX6_isTable_10 (by decide) ?_
      refine ev_retz dX6_isTable_14 rfl (Or.inr rfl) (Nat.zero_le _) (Nat.zero_le _) ?_
      exact Or.inl ⟨by rw [am_rgt (by decide)]; simp only [Int32.lt_iff_toInt_lt, Int32.le_iff_toInt_le, Int32.reduceToInt] at *; omega, rfl, rfl⟩

set_option maxHeartbeats 400000 in
set_option maxRecDepth 100000 in
theorem c_X6_isTableOrNone (G : am_G) (D : Nat) (σ : am_M) (v : Int32) : am_Mt G (D + 1) mX6_isTableOrNone [.int v] σ 0 0 (am_zq (v = -1 ∨ am_rg v 3) σ) := by
  refine am_of moX6_isTableOrNone (Nat.le_of_ble_eq_true rfl) ?_
  show am_Ev G mX6_isTableOrNone (am_R (D + 1) 0 0) 0 0 _ 0 [(0, .int v)] [] σ 0 0
  refine ev_iload_n dX6_isTableOrNone_0 rfl rfl ?_
  refine ev_iconst (v := (-1)) dX6_isTableOrNone_1 (by decide) ?_
  refine ev_icmp_eq (tgt := 12) dX6_isTableOrNone_2 (by decide) (fun c1 => ?_) (fun c1 => ?_)
  · skip
    refine ev_iconst (v := 1) dX6_isTableOrNone_12 (by decide) ?_
    refine ev_goto (tgt := 17) dX6_isTableOrNone_13 (by decide) ?_
    refine ev_retz dX6_isTableOrNone_17 rfl (Or.inr rfl) (Nat.zero_le _) (Nat.zero_le _) ?_
    exact Or.inl ⟨by simp_all, rfl, rfl⟩
  · skip
    refine ev_iload_n dX6_isTableOrNone_5 rfl rfl ?_
    refine ev_callS (as := [.int v]) (st := []) dX6_isTableOrNone_6 mfX6_isTable lk_X6_161 (c_X6_isTable G D σ v) rfl rfl (Nat.le_of_ble_eq_true rfl) (am_hR (by omega) (by decide)) ⟨Nat.le_refl _, Nat.le_refl _⟩ ?_
    rintro _ _ (⟨h2, rfl, rfl⟩ | ⟨h2, rfl, rfl⟩)
    · skip
      refine ev_if_eq (tgt := 16) dX6_isTableOrNone_9 (by decide) (fun c => absurd c (by decide)) (fun _ => ?_)
      refine ev_iconst (v := 1) dX6_isTableOrNone_12 (by decide) ?_
      refine ev_goto (tgt := 17) dX6_isTableOrNone_13 (by decide) ?_
      refine ev_retz dX6_isTableOrNone_17 rfl (Or.inr rfl) (Nat.zero_le _) (Nat.zero_le _) ?_
      exact Or.inl ⟨by simp_all, rfl, rfl⟩
    · skip
      refine ev_if_eq (tgt := 16) dX6_isTableOrNone_9 (by decide) (fun _ => ?_) (fun c => absurd (by decide) c)
      refine ev_iconst (v := 0) dX6_isTableOrNone_16 (by decide) ?_
      refine ev_retz dX6_isTableOrNone_17 rfl (Or.inl rfl) (Nat.zero_le _) (Nat.zero_le _) ?_
      exact Or.inr ⟨by simp_all, rfl, rfl⟩

def am_bd (v a b : Int32) : Int32 := if v < a then a else if b < v then b else v
theorem am_bdc {v a b : Int32} (h : a ≤ b) : (if a < (if v < b then v else b) then (if v < b then v else b) else a) = am_bd v a b := by
  unfold am_bd
  by_cases h1 : v < b
  · rw [if_pos h1]
    have h3 : ¬ b < v := by simp only [Int32.lt_iff_toInt_lt, Int32.le_iff_toInt_le] at *; omega
    by_cases h2 : v < a
    · have h4 : ¬ a < v := by simp only [Int32.lt_iff_toInt_lt, Int32.le_iff_toInt_le] at *; omega
      rw [if_pos h2, if_neg h4]
    · rw [if_neg h2, if_neg h3]
      by_cases h4 : a < v
      · rw [if_pos h4]
      · rw [if_neg h4]
        exact Int32.toInt_inj.mp (by simp only [Int32.lt_iff_toInt_lt, Int32.le_iff_toInt_le] at *; omega)
  · rw [if_neg h1]
    have h2 : ¬ v < a := by simp only [Int32.lt_iff_toInt_lt, Int32.le_iff_toInt_le] at *; omega
    rw [if_neg h2]
    by_cases h3 : b < v
    · rw [if_pos h3]
      by_cases h4 : a < b
      · rw [if_pos h4]
      · rw [if_neg h4]
        exact Int32.toInt_inj.mp (by simp only [Int32.lt_iff_toInt_lt, Int32.le_iff_toInt_le] at *; omega)
    · rw [if_neg h3]
      have e : v = b := Int32.toInt_inj.mp (by simp only [Int32.lt_iff_toInt_lt, Int32.le_iff_toInt_le] at *; omega)
      subst e
      by_cases h4 : a < v
      · rw [if_pos h4]
      · rw [if_neg h4]
        exact Int32.toInt_inj.mp (by simp only [Int32.lt_iff_toInt_lt, Int32.le_iff_toInt_le] at *; omega)
set_option maxHeartbeats 400000 in
set_option maxRecDepth 100000 in
theorem c_X6_bounded (G : am_G) (D : Nat) (σ : am_M) (v a b : Int32) (hab : a ≤ b) : am_Mt G (D + 1) mX6_bounded [.int v, .int a, .int b] σ 0 0 (am_q (.int (am_bd v a b)) σ) := by
  refine am_of moX6_bounded (Nat.le_of_ble_eq_true rfl) ?_
  show am_Ev G mX6_bounded (am_R (D + 1) 0 0) 0 0 _ 0 [(0, .int v), (1, .int a), (2, .int b)] [] σ 0 0
  refine ev_iload_n dX6_bounded_0 rfl rfl ?_
  refine ev_iload_n dX6_bounded_1 rfl rfl ?_
  refine ev_iload_n dX6_bounded_2 rfl rfl ?_
  refine ev_min (v := if v < b then v else b) dX6_bounded_3 lk_X6_295 rfl (Nat.le_of_ble_eq_true rfl) ⟨Nat.le_add_left _ _, by simp only [am_R]; omega⟩ ⟨Nat.zero_le _, Nat.zero_le _⟩ ?_
  refine ev_max (v := if a < if v < b then v else b then if v < b then v else b else a) dX6_bounded_6 lk_X6_300 rfl (Nat.le_of_ble_eq_true rfl) ⟨Nat.le_add_left _ _, by simp only [am_R]; omega⟩ ⟨Nat.zero_le _, Nat.zero_le _⟩ ?_
  refine ev_reti dX6_bounded_9 rfl (Nat.zero_le _) (Nat.zero_le _) ?_
  exact ⟨by rw [am_bdc hab], rfl⟩

def s_jn (c a b : Int32) : Int32 := if c = -7 then (if a ≠ 0 ∨ b ≠ 0 then 1 else 0) else if c = -8 then (if a ≠ 0 ∧ b ≠ 0 then 1 else 0) else if c = -10 then (if a < b then 1 else 0) else if c = -11 then (if a = b then 1 else 0) else if c = -12 then a + b else if c = -13 then a - b else a * b
def s_tw (c a b : Int32) : Int32 := if c = 11 then (if a ≠ 0 ∨ b ≠ 0 then 1 else 0) else if c = 12 then (if a ≠ 0 ∧ b ≠ 0 then 1 else 0) else if c = 14 then (if a < b then 1 else 0) else if c = 15 then (if a = b then 1 else 0) else if c = 16 then a + b else if c = 17 then a - b else a * b
def s_rk (s : Int32) : Int32 := if s = 0 then 0 else if s = 11 then 1 else if s = 12 then 2 else if s = 13 then 3 else if s ≤ 15 then 4 else if s ≤ 17 then 5 else if s = 18 then 6 else 7
def s_cmp (x y : Int32) : Int32 := if x < y then -1 else if x = y then 0 else 1
def s_sg (v : Int32) : Int32 := if v = 40 then -16 else if v = 41 then -17 else if v = 59 then -18 else if v = 43 then -12 else if v = 45 then -13 else if v = 42 then -14 else if v = 60 then -10 else if v = 61 then -11 else -23
set_option maxHeartbeats 400000 in
set_option maxRecDepth 100000 in
theorem c_X7_in (G : am_G) (D : Nat) (σ : am_M) (v lo hi : Int32) : am_Mt G D mX7_in [.int v, .int lo, .int hi] σ 0 0 (am_zq (lo ≤ v ∧ v ≤ hi) σ) := by
  refine am_of moX7_in (Nat.le_of_ble_eq_true rfl) ?_
  show am_Ev G mX7_in (am_R D 0 0) 0 0 _ 0 [(0, .int v), (1, .int lo), (2, .int hi)] [] σ 0 0
  refine ev_iload_n dX7_in_0 rfl rfl ?_
  refine ev_iload_n dX7_in_1 rfl rfl ?_
  refine ev_icmp_lt (tgt := 14) dX7_in_2 (by decide) (fun c1 => ?_) (fun c1 => ?_)
  · skip
    refine ev_iconst (v := 0) dX7_in_14 (by decide) ?_
    refine ev_retz dX7_in_15 rfl (Or.inl rfl) (Nat.zero_le _) (Nat.zero_le _) ?_
    exact Or.inr ⟨by simp only [Int32.lt_iff_toInt_lt, Int32.le_iff_toInt_le] at *; omega, rfl, rfl⟩
  · skip
    refine ev_iload_n dX7_in_5 rfl rfl ?_
    refine ev_iload_n dX7_in_6 rfl rfl ?_
    refine ev_icmp_gt (tgt := 14) dX7_in_7 (by decide) (fun c2 => ?_) (fun c2 => ?_)
    · skip
      refine ev_iconst (v := 0) dX7_in_14 (by decide) ?_
      refine ev_retz dX7_in_15 rfl (Or.inl rfl) (Nat.zero_le _) (Nat.zero_le _) ?_
      exact Or.inr ⟨by simp only [Int32.lt_iff_toInt_lt, Int32.le_iff_toInt_le] at *; omega, rfl, rfl⟩
    · skip
      refine ev_iconst (v := 1) dX7_in_10 (by decide) ?_
      refine ev_goto (tgt := 15) dX7_in_11 (by decide) ?_
      refine ev_retz dX7_in_15 rfl (Or.inr rfl) (Nat.zero_le _) (Nat.zero_le _) ?_
      exact Or.inl ⟨by simp only [Int32.lt_iff_toInt_lt, Int32.le_iff_toInt_le] at *; omega, rfl, rfl⟩

set_option maxHeartbeats 400000 in
set_option maxRecDepth 100000 in
theorem c_X7_within (G : am_G) (D : Nat) (σ : am_M) (v lo hi : Int32) : am_Mt G D mX7_within [.int v, .int lo, .int hi] σ 0 0 (am_q (.int (am_bd v lo hi)) σ) := by
  refine am_of moX7_within (Nat.le_of_ble_eq_true rfl) ?_
  show am_Ev G mX7_within (am_R D 0 0) 0 0 _ 0 [(0, .int v), (1, .int lo), (2, .int hi)] [] σ 0 0
  refine ev_iload_n dX7_within_0 rfl rfl ?_
  refine ev_iload_n dX7_within_1 rfl rfl ?_
  refine ev_icmp_ge (tgt := 9) dX7_within_2 (by decide) (fun c1 => ?_) (fun c1 => ?_)
  · skip
    refine ev_iload_n dX7_within_9 rfl rfl ?_
    refine ev_iload_n dX7_within_10 rfl rfl ?_
    refine ev_icmp_le (tgt := 18) dX7_within_11 (by decide) (fun c2 => ?_) (fun c2 => ?_)
    · skip
      refine ev_iload_n dX7_within_18 rfl rfl ?_
      refine ev_reti dX7_within_19 rfl (Nat.zero_le _) (Nat.zero_le _) ?_
      exact ⟨by unfold am_bd; (repeat' split) <;> first | rfl | (exfalso; simp only [Int32.lt_iff_toInt_lt, Int32.le_iff_toInt_le] at *; omega), rfl⟩
    · skip
      refine ev_iload_n dX7_within_14 rfl rfl ?_
      refine ev_goto (tgt := 19) dX7_within_15 (by decide) ?_
      refine ev_reti dX7_within_19 rfl (Nat.zero_le _) (Nat.zero_le _) ?_
      exact ⟨by unfold am_bd; (repeat' split) <;> first | rfl | (exfalso; simp only [Int32.lt_iff_toInt_lt, Int32.le_iff_toInt_le] at *; omega), rfl⟩
  · skip
    refine ev_iload_n dX7_within_5 rfl rfl ?_
    refine ev_goto (tgt := 19) dX7_within_6 (by decide) ?_
    refine ev_reti dX7_within_19 rfl (Nat.zero_le _) (Nat.zero_le _) ?_
    exact ⟨by unfold am_bd; (repeat' split) <;> first | rfl | (exfalso; simp only [Int32.lt_iff_toInt_lt, Int32.le_iff_toInt_le] at *; omega), rfl⟩

set_option maxHeartbeats 400000 in
set_option maxRecDepth 100000 in
theorem c_X7_isTable (G : am_G) (D : Nat) (σ : am_M) (v : Int32) : am_Mt G (D + 1) mX7_isTable [.int v] σ 0 0 (am_zq (am_rg v 3) σ) := by
  refine am_of moX7_isTable (Nat.le_of_ble_eq_true rfl) ?_
  show am_Ev G mX7_isTable (am_R (D + 1) 0 0) 0 0 _ 0 [(0, .int v)] [] σ 0 0
  refine ev_iload_n dX7_isTable_0 rfl rfl ?_
  refine ev_iconst (v := 0) dX7_isTable_1 (by decide) ?_
  refine ev_iconst (v := 2) dX7_isTable_2 (by decide) ?_
  refine ev_callS (as := [.int v, .int 0, .int 2]) (st := []) dX7_isTable_3 mfX7_in lk_X7_90 (c_X7_in G D σ v 0 2) rfl rfl (Nat.le_of_ble_eq_true rfl) (am_hR (by omega) (by decide)) ⟨Nat.le_refl _, Nat.le_refl _⟩ ?_
  rintro _ _ (⟨h1, rfl, rfl⟩ | ⟨h1, rfl, rfl⟩)
  · skip
    refine ev_retz dX7_isTable_6 rfl (Or.inr rfl) (Nat.zero_le _) (Nat.zero_le _) ?_
    exact Or.inl ⟨by rw [am_rgt (by decide)]; simp only [Int32.lt_iff_toInt_lt, Int32.le_iff_toInt_le, Int32.reduceToInt] at *; omega, rfl, rfl⟩
  · skip
    refine ev_retz dX7_isTable_6 rfl (Or.inl rfl) (Nat.zero_le _) (Nat.zero_le _) ?_
    exact Or.inr ⟨by rw [am_rgt (by decide)]; simp only [Int32.lt_iff_toInt_lt, Int32.le_iff_toInt_le, Int32.reduceToInt] at *; omega, rfl, rfl⟩

set_option maxHeartbeats 400000 in
set_option maxRecDepth 100000 in
theorem c_X7_isByte (G : am_G) (D : Nat) (σ : am_M) (v : Int32) : am_Mt G (D + 1) mX7_isByte [.int v] σ 0 0 (am_zq (am_rg v 256) σ) := by
  refine am_of moX7_isByte (Nat.le_of_ble_eq_true rfl) ?_
  show am_Ev G mX7_isByte (am_R (D + 1) 0 0) 0 0 _ 0 [(0, .int v)] [] σ 0 0
  refine ev_iload_n dX7_isByte_0 rfl rfl ?_
  refine ev_iconst (v := 0) dX7_isByte_1 (by decide) ?_
  refine ev_sipush (v := 255) dX7_isByte_2 (by decide) ?_
  refine ev_callS (as := [.int v, .int 0, .int 255]) (st := []) dX7_isByte_5 mfX7_in lk_X7_90 (c_X7_in G D σ v 0 255) rfl rfl (Nat.le_of_ble_eq_true rfl) (am_hR (by omega) (by decide)) ⟨Nat.le_refl _, Nat.le_refl _⟩ ?_
  rintro _ _ (⟨h1, rfl, rfl⟩ | ⟨h1, rfl, rfl⟩)
  · skip
    refine ev_retz dX7_isByte_8 rfl (Or.inr rfl) (Nat.zero_le _) (Nat.zero_le _) ?_
    exact Or.inl ⟨by rw [am_rgt (by decide)]; simp only [Int32.lt_iff_toInt_lt, Int32.le_iff_toInt_le, Int32.reduceToInt] at *; omega, rfl, rfl⟩
  · skip
    refine ev_retz dX7_isByte_8 rfl (Or.inl rfl) (Nat.zero_le _) (Nat.zero_le _) ?_
    exact Or.inr ⟨by rw [am_rgt (by decide)]; simp only [Int32.lt_iff_toInt_lt, Int32.le_iff_toInt_le, Int32.reduceToInt] at *; omega, rfl, rfl⟩

set_option maxHeartbeats 400000 in
set_option maxRecDepth 100000 in
theorem c_X7_rank (G : am_G) (D : Nat) (σ : am_M) (v : Int32) : am_Mt G D mX7_rank [.int v] σ 0 0 (am_q (.int (s_rk v)) σ) := by
  refine am_of moX7_rank (Nat.le_of_ble_eq_true rfl) ?_
  show am_Ev G mX7_rank (am_R D 0 0) 0 0 _ 0 [(0, .int v)] [] σ 0 0
  refine ev_iload_n dX7_rank_0 rfl rfl ?_
  refine ev_if_ne (tgt := 8) dX7_rank_1 (by decide) (fun c1 => ?_) (fun c1 => ?_)
  · skip
    refine ev_iload_n dX7_rank_8 rfl rfl ?_
    refine ev_bipush (v := 11) dX7_rank_9 (by decide) ?_
    refine ev_icmp_ne (tgt := 18) dX7_rank_11 (by decide) (fun c2 => ?_) (fun c2 => ?_)
    · skip
      refine ev_iload_n dX7_rank_18 rfl rfl ?_
      refine ev_bipush (v := 12) dX7_rank_19 (by decide) ?_
      refine ev_icmp_ne (tgt := 28) dX7_rank_21 (by decide) (fun c3 => ?_) (fun c3 => ?_)
      · skip
        refine ev_iload_n dX7_rank_28 rfl rfl ?_
        refine ev_bipush (v := 13) dX7_rank_29 (by decide) ?_
        refine ev_icmp_ne (tgt := 38) dX7_rank_31 (by decide) (fun c4 => ?_) (fun c4 => ?_)
        · skip
          refine ev_iload_n dX7_rank_38 rfl rfl ?_
          refine ev_bipush (v := 15) dX7_rank_39 (by decide) ?_
          refine ev_icmp_gt (tgt := 48) dX7_rank_41 (by decide) (fun c5 => ?_) (fun c5 => ?_)
          · skip
            refine ev_iload_n dX7_rank_48 rfl rfl ?_
            refine ev_bipush (v := 17) dX7_rank_49 (by decide) ?_
            refine ev_icmp_gt (tgt := 58) dX7_rank_51 (by decide) (fun c6 => ?_) (fun c6 => ?_)
            · skip
              refine ev_iload_n dX7_rank_58 rfl rfl ?_
              refine ev_bipush (v := 18) dX7_rank_59 (by decide) ?_
              refine ev_icmp_ne (tgt := 69) dX7_rank_61 (by decide) (fun c7 => ?_) (fun c7 => ?_)
              · skip
                refine ev_bipush (v := 7) dX7_rank_69 (by decide) ?_
                refine ev_reti dX7_rank_71 rfl (Nat.zero_le _) (Nat.zero_le _) ?_
                exact ⟨by unfold s_rk; (repeat' split) <;> first | rfl | contradiction | (exfalso; first | contradiction | (simp only [Int32.lt_iff_toInt_lt, Int32.le_iff_toInt_le] at *; omega)), rfl⟩
              · skip
                refine ev_bipush (v := 6) dX7_rank_64 (by decide) ?_
                refine ev_goto (tgt := 71) dX7_rank_66 (by decide) ?_
                refine ev_reti dX7_rank_71 rfl (Nat.zero_le _) (Nat.zero_le _) ?_
                exact ⟨by unfold s_rk; (repeat' split) <;> first | rfl | contradiction | (exfalso; first | contradiction | (simp only [Int32.lt_iff_toInt_lt, Int32.le_iff_toInt_le] at *; omega)), rfl⟩
            · skip
              refine ev_iconst (v := 5) dX7_rank_54 (by decide) ?_
              refine ev_goto (tgt := 71) dX7_rank_55 (by decide) ?_
              refine ev_reti dX7_rank_71 rfl (Nat.zero_le _) (Nat.zero_le _) ?_
              exact ⟨by unfold s_rk; (repeat' split) <;> first | rfl | contradiction | (exfalso; first | contradiction | (simp only [Int32.lt_iff_toInt_lt, Int32.le_iff_toInt_le] at *; omega)), rfl⟩
          · skip
            refine ev_iconst (v := 4) dX7_rank_44 (by decide) ?_
            refine ev_goto (tgt := 71) dX7_rank_45 (by decide) ?_
            refine ev_reti dX7_rank_71 rfl (Nat.zero_le _) (Nat.zero_le _) ?_
            exact ⟨by unfold s_rk; (repeat' split) <;> first | rfl | contradiction | (exfalso; first | contradiction | (simp only [Int32.lt_iff_toInt_lt, Int32.le_iff_toInt_le] at *; omega)), rfl⟩
        · skip
          refine ev_iconst (v := 3) dX7_rank_34 (by decide) ?_
          refine ev_goto (tgt := 71) dX7_rank_35 (by decide) ?_
          refine ev_reti dX7_rank_71 rfl (Nat.zero_le _) (Nat.zero_le _) ?_
          exact ⟨by unfold s_rk; (repeat' split) <;> first | rfl | contradiction | (exfalso; first | contradiction | (simp only [Int32.lt_iff_toInt_lt, Int32.le_iff_toInt_le] at *; omega)), rfl⟩
      · skip
        refine ev_iconst (v := 2) dX7_rank_24 (by decide) ?_
        refine ev_goto (tgt := 71) dX7_rank_25 (by decide) ?_
        refine ev_reti dX7_rank_71 rfl (Nat.zero_le _) (Nat.zero_le _) ?_
        exact ⟨by unfold s_rk; (repeat' split) <;> first | rfl | contradiction | (exfalso; first | contradiction | (simp only [Int32.lt_iff_toInt_lt, Int32.le_iff_toInt_le] at *; omega)), rfl⟩
    · skip
      refine ev_iconst (v := 1) dX7_rank_14 (by decide) ?_
      refine ev_goto (tgt := 71) dX7_rank_15 (by decide) ?_
      refine ev_reti dX7_rank_71 rfl (Nat.zero_le _) (Nat.zero_le _) ?_
      exact ⟨by unfold s_rk; (repeat' split) <;> first | rfl | contradiction | (exfalso; first | contradiction | (simp only [Int32.lt_iff_toInt_lt, Int32.le_iff_toInt_le] at *; omega)), rfl⟩
  · skip
    refine ev_iconst (v := 0) dX7_rank_4 (by decide) ?_
    refine ev_goto (tgt := 71) dX7_rank_5 (by decide) ?_
    refine ev_reti dX7_rank_71 rfl (Nat.zero_le _) (Nat.zero_le _) ?_
    exact ⟨by unfold s_rk; (repeat' split) <;> first | rfl | contradiction | (exfalso; first | contradiction | (simp only [Int32.lt_iff_toInt_lt, Int32.le_iff_toInt_le] at *; omega)), rfl⟩

set_option maxHeartbeats 400000 in
set_option maxRecDepth 100000 in
theorem c_X7_isUnder (G : am_G) (D : Nat) (σ : am_M) (x y : Int32) : am_Mt G D mX7_isUnder [.int x, .int y] σ 0 0 (am_zq (y = 0 ∨ x = y ∨ (y = 1 ∧ x = 3) ∨ (y = 2 ∧ x = 4)) σ) := by
  refine am_of moX7_isUnder (Nat.le_of_ble_eq_true rfl) ?_
  show am_Ev G mX7_isUnder (am_R D 0 0) 0 0 _ 0 [(0, .int x), (1, .int y)] [] σ 0 0
  refine ev_iload_n dX7_isUnder_0 rfl rfl ?_
  refine ev_if_eq (tgt := 29) dX7_isUnder_1 (by decide) (fun c1 => ?_) (fun c1 => ?_)
  · skip
    refine ev_iconst (v := 1) dX7_isUnder_29 (by decide) ?_
    refine ev_goto (tgt := 34) dX7_isUnder_30 (by decide) ?_
    refine ev_retz dX7_isUnder_34 rfl (Or.inr rfl) (Nat.zero_le _) (Nat.zero_le _) ?_
    exact Or.inl ⟨by simp_all, rfl, rfl⟩
  · skip
    refine ev_iload_n dX7_isUnder_4 rfl rfl ?_
    refine ev_iload_n dX7_isUnder_5 rfl rfl ?_
    refine ev_icmp_eq (tgt := 29) dX7_isUnder_6 (by decide) (fun c2 => ?_) (fun c2 => ?_)
    · skip
      refine ev_iconst (v := 1) dX7_isUnder_29 (by decide) ?_
      refine ev_goto (tgt := 34) dX7_isUnder_30 (by decide) ?_
      refine ev_retz dX7_isUnder_34 rfl (Or.inr rfl) (Nat.zero_le _) (Nat.zero_le _) ?_
      exact Or.inl ⟨by simp_all, rfl, rfl⟩
    · skip
      refine ev_iload_n dX7_isUnder_9 rfl rfl ?_
      refine ev_iconst (v := 1) dX7_isUnder_10 (by decide) ?_
      refine ev_icmp_ne (tgt := 19) dX7_isUnder_11 (by decide) (fun c3 => ?_) (fun c3 => ?_)
      · skip
        refine ev_iload_n dX7_isUnder_19 rfl rfl ?_
        refine ev_iconst (v := 2) dX7_isUnder_20 (by decide) ?_
        refine ev_icmp_ne (tgt := 33) dX7_isUnder_21 (by decide) (fun c4 => ?_) (fun c4 => ?_)
        · skip
          refine ev_iconst (v := 0) dX7_isUnder_33 (by decide) ?_
          refine ev_retz dX7_isUnder_34 rfl (Or.inl rfl) (Nat.zero_le _) (Nat.zero_le _) ?_
          exact Or.inr ⟨by simp_all, rfl, rfl⟩
        · skip
          refine ev_iload_n dX7_isUnder_24 rfl rfl ?_
          refine ev_iconst (v := 4) dX7_isUnder_25 (by decide) ?_
          refine ev_icmp_ne (tgt := 33) dX7_isUnder_26 (by decide) (fun c5 => ?_) (fun c5 => ?_)
          · skip
            refine ev_iconst (v := 0) dX7_isUnder_33 (by decide) ?_
            refine ev_retz dX7_isUnder_34 rfl (Or.inl rfl) (Nat.zero_le _) (Nat.zero_le _) ?_
            exact Or.inr ⟨by simp_all, rfl, rfl⟩
          · skip
            refine ev_iconst (v := 1) dX7_isUnder_29 (by decide) ?_
            refine ev_goto (tgt := 34) dX7_isUnder_30 (by decide) ?_
            refine ev_retz dX7_isUnder_34 rfl (Or.inr rfl) (Nat.zero_le _) (Nat.zero_le _) ?_
            exact Or.inl ⟨by simp_all, rfl, rfl⟩
      · skip
        refine ev_iload_n dX7_isUnder_14 rfl rfl ?_
        refine ev_iconst (v := 3) dX7_isUnder_15 (by decide) ?_
        refine ev_icmp_eq (tgt := 29) dX7_isUnder_16 (by decide) (fun c6 => ?_) (fun c6 => ?_)
        · skip
          refine ev_iconst (v := 1) dX7_isUnder_29 (by decide) ?_
          refine ev_goto (tgt := 34) dX7_isUnder_30 (by decide) ?_
          refine ev_retz dX7_isUnder_34 rfl (Or.inr rfl) (Nat.zero_le _) (Nat.zero_le _) ?_
          exact Or.inl ⟨by simp_all, rfl, rfl⟩
        · skip
          refine ev_iload_n dX7_isUnder_19 rfl rfl ?_
          refine ev_iconst (v := 2) dX7_isUnder_20 (by decide) ?_
          refine ev_icmp_ne (tgt := 33) dX7_isUnder_21 (by decide) (fun c7 => ?_) (fun c7 => ?_)
          · skip
            refine ev_iconst (v := 0) dX7_isUnder_33 (by decide) ?_
            refine ev_retz dX7_isUnder_34 rfl (Or.inl rfl) (Nat.zero_le _) (Nat.zero_le _) ?_
            exact Or.inr ⟨by simp_all, rfl, rfl⟩
          · skip
            refine ev_iload_n dX7_isUnder_24 rfl rfl ?_
            refine ev_iconst (v := 4) dX7_isUnder_25 (by decide) ?_
            refine ev_icmp_ne (tgt := 33) dX7_isUnder_26 (by decide) (fun c8 => ?_) (fun c8 => ?_)
            · skip
              refine ev_iconst (v := 0) dX7_isUnder_33 (by decide) ?_
              refine ev_retz dX7_isUnder_34 rfl (Or.inl rfl) (Nat.zero_le _) (Nat.zero_le _) ?_
              exact Or.inr ⟨by simp_all, rfl, rfl⟩
            · skip
              refine ev_iconst (v := 1) dX7_isUnder_29 (by decide) ?_
              refine ev_goto (tgt := 34) dX7_isUnder_30 (by decide) ?_
              refine ev_retz dX7_isUnder_34 rfl (Or.inr rfl) (Nat.zero_le _) (Nat.zero_le _) ?_
              exact Or.inl ⟨by simp_all, rfl, rfl⟩

set_option maxHeartbeats 400000 in
set_option maxRecDepth 100000 in
theorem c_X7_two (G : am_G) (D : Nat) (σ : am_M) (c a b : Int32) : am_Mt G D mX7_two [.int c, .int a, .int b] σ 0 0 (am_q (.int (s_tw c a b)) σ) := by
  refine am_of moX7_two (Nat.le_of_ble_eq_true rfl) ?_
  show am_Ev G mX7_two (am_R D 0 0) 0 0 _ 0 [(0, .int c), (1, .int a), (2, .int b)] [] σ 0 0
  refine ev_iload_n dX7_two_0 rfl rfl ?_
  by_cases c1 : c = 11 ∨ c = 12 ∨ c = 13 ∨ c = 14 ∨ c = 15 ∨ c = 16 ∨ c = 17
  · rcases c1 with c1 | c1 | c1 | c1 | c1 | c1 | c1
    · subst c1
      refine ev_tableIn (tgt := 44) (off := 43) dX7_two_1 (by decide) (by decide) rfl (by decide) ?_
      refine ev_iload_n dX7_two_44 rfl rfl ?_
      refine ev_if_ne (tgt := 52) dX7_two_45 (by decide) (fun c2 => ?_) (fun c2 => ?_)
      · skip
        refine ev_iconst (v := 1) dX7_two_52 (by decide) ?_
        refine ev_goto (tgt := 57) dX7_two_53 (by decide) ?_
        refine ev_reti dX7_two_57 rfl (Nat.zero_le _) (Nat.zero_le _) ?_
        exact ⟨by simp_all [s_tw], rfl⟩
      · skip
        refine ev_iload_n dX7_two_48 rfl rfl ?_
        refine ev_if_eq (tgt := 56) dX7_two_49 (by decide) (fun c3 => ?_) (fun c3 => ?_)
        · skip
          refine ev_iconst (v := 0) dX7_two_56 (by decide) ?_
          refine ev_reti dX7_two_57 rfl (Nat.zero_le _) (Nat.zero_le _) ?_
          exact ⟨by simp_all [s_tw], rfl⟩
        · skip
          refine ev_iconst (v := 1) dX7_two_52 (by decide) ?_
          refine ev_goto (tgt := 57) dX7_two_53 (by decide) ?_
          refine ev_reti dX7_two_57 rfl (Nat.zero_le _) (Nat.zero_le _) ?_
          exact ⟨by simp_all [s_tw], rfl⟩
    · subst c1
      refine ev_tableIn (tgt := 58) (off := 57) dX7_two_1 (by decide) (by decide) rfl (by decide) ?_
      refine ev_iload_n dX7_two_58 rfl rfl ?_
      refine ev_if_eq (tgt := 70) dX7_two_59 (by decide) (fun c4 => ?_) (fun c4 => ?_)
      · skip
        refine ev_iconst (v := 0) dX7_two_70 (by decide) ?_
        refine ev_reti dX7_two_71 rfl (Nat.zero_le _) (Nat.zero_le _) ?_
        exact ⟨by simp_all [s_tw], rfl⟩
      · skip
        refine ev_iload_n dX7_two_62 rfl rfl ?_
        refine ev_if_eq (tgt := 70) dX7_two_63 (by decide) (fun c5 => ?_) (fun c5 => ?_)
        · skip
          refine ev_iconst (v := 0) dX7_two_70 (by decide) ?_
          refine ev_reti dX7_two_71 rfl (Nat.zero_le _) (Nat.zero_le _) ?_
          exact ⟨by simp_all [s_tw], rfl⟩
        · skip
          refine ev_iconst (v := 1) dX7_two_66 (by decide) ?_
          refine ev_goto (tgt := 71) dX7_two_67 (by decide) ?_
          refine ev_reti dX7_two_71 rfl (Nat.zero_le _) (Nat.zero_le _) ?_
          exact ⟨by simp_all [s_tw], rfl⟩
    · subst c1
      refine ev_tableIn (tgt := 102) (off := 101) dX7_two_1 (by decide) (by decide) rfl (by decide) ?_
      refine ev_iload_n dX7_two_102 rfl rfl ?_
      refine ev_iload_n dX7_two_103 rfl rfl ?_
      refine ev_imul (v := a * b) dX7_two_104 rfl ?_
      refine ev_reti dX7_two_105 rfl (Nat.zero_le _) (Nat.zero_le _) ?_
      exact ⟨by simp_all [s_tw], rfl⟩
    · subst c1
      refine ev_tableIn (tgt := 72) (off := 71) dX7_two_1 (by decide) (by decide) rfl (by decide) ?_
      refine ev_iload_n dX7_two_72 rfl rfl ?_
      refine ev_iload_n dX7_two_73 rfl rfl ?_
      refine ev_icmp_ge (tgt := 81) dX7_two_74 (by decide) (fun c6 => ?_) (fun c6 => ?_)
      · skip
        refine ev_iconst (v := 0) dX7_two_81 (by decide) ?_
        refine ev_reti dX7_two_82 rfl (Nat.zero_le _) (Nat.zero_le _) ?_
        exact ⟨by simp_all [s_tw], rfl⟩
      · skip
        refine ev_iconst (v := 1) dX7_two_77 (by decide) ?_
        refine ev_goto (tgt := 82) dX7_two_78 (by decide) ?_
        refine ev_reti dX7_two_82 rfl (Nat.zero_le _) (Nat.zero_le _) ?_
        exact ⟨by simp_all [s_tw], rfl⟩
    · subst c1
      refine ev_tableIn (tgt := 83) (off := 82) dX7_two_1 (by decide) (by decide) rfl (by decide) ?_
      refine ev_iload_n dX7_two_83 rfl rfl ?_
      refine ev_iload_n dX7_two_84 rfl rfl ?_
      refine ev_icmp_ne (tgt := 92) dX7_two_85 (by decide) (fun c7 => ?_) (fun c7 => ?_)
      · skip
        refine ev_iconst (v := 0) dX7_two_92 (by decide) ?_
        refine ev_reti dX7_two_93 rfl (Nat.zero_le _) (Nat.zero_le _) ?_
        exact ⟨by simp_all [s_tw], rfl⟩
      · skip
        refine ev_iconst (v := 1) dX7_two_88 (by decide) ?_
        refine ev_goto (tgt := 93) dX7_two_89 (by decide) ?_
        refine ev_reti dX7_two_93 rfl (Nat.zero_le _) (Nat.zero_le _) ?_
        exact ⟨by simp_all [s_tw], rfl⟩
    · subst c1
      refine ev_tableIn (tgt := 94) (off := 93) dX7_two_1 (by decide) (by decide) rfl (by decide) ?_
      refine ev_iload_n dX7_two_94 rfl rfl ?_
      refine ev_iload_n dX7_two_95 rfl rfl ?_
      refine ev_iadd (v := a + b) dX7_two_96 rfl ?_
      refine ev_reti dX7_two_97 rfl (Nat.zero_le _) (Nat.zero_le _) ?_
      exact ⟨by simp_all [s_tw], rfl⟩
    · subst c1
      refine ev_tableIn (tgt := 98) (off := 97) dX7_two_1 (by decide) (by decide) rfl (by decide) ?_
      refine ev_iload_n dX7_two_98 rfl rfl ?_
      refine ev_iload_n dX7_two_99 rfl rfl ?_
      refine ev_isub (v := a - b) dX7_two_100 rfl ?_
      refine ev_reti dX7_two_101 rfl (Nat.zero_le _) (Nat.zero_le _) ?_
      exact ⟨by simp_all [s_tw], rfl⟩
  · skip
    refine ev_tableOut (tgt := 102) dX7_two_1 (by simp [← Int32.toInt_inj] at c1; omega) (by decide) ?_
    refine ev_iload_n dX7_two_102 rfl rfl ?_
    refine ev_iload_n dX7_two_103 rfl rfl ?_
    refine ev_imul (v := a * b) dX7_two_104 rfl ?_
    refine ev_reti dX7_two_105 rfl (Nat.zero_le _) (Nat.zero_le _) ?_
    exact ⟨by simp_all [s_tw], rfl⟩

set_option maxHeartbeats 400000 in
set_option maxRecDepth 100000 in
theorem c_X5_joined (G : am_G) (D : Nat) (σ : am_M) (c a b : Int32) : am_Mt G D mX5_joined [.int c, .int a, .int b] σ 0 0 (am_q (.int (s_jn c a b)) σ) := by
  refine am_of moX5_joined (Nat.le_of_ble_eq_true rfl) ?_
  show am_Ev G mX5_joined (am_R D 0 0) 0 0 _ 0 [(0, .int c), (1, .int a), (2, .int b)] [] σ 0 0
  refine ev_iload_n dX5_joined_0 rfl rfl ?_
  by_cases c1 : c = (-13) ∨ c = (-12) ∨ c = (-11) ∨ c = (-10) ∨ c = (-9) ∨ c = (-8) ∨ c = (-7)
  · rcases c1 with c1 | c1 | c1 | c1 | c1 | c1 | c1
    · subst c1
      refine ev_tableIn (tgt := 98) (off := 97) dX5_joined_1 (by decide) (by decide) rfl (by decide) ?_
      refine ev_iload_n dX5_joined_98 rfl rfl ?_
      refine ev_iload_n dX5_joined_99 rfl rfl ?_
      refine ev_isub (v := a - b) dX5_joined_100 rfl ?_
      refine ev_reti dX5_joined_101 rfl (Nat.zero_le _) (Nat.zero_le _) ?_
      exact ⟨by simp_all [s_jn], rfl⟩
    · subst c1
      refine ev_tableIn (tgt := 94) (off := 93) dX5_joined_1 (by decide) (by decide) rfl (by decide) ?_
      refine ev_iload_n dX5_joined_94 rfl rfl ?_
      refine ev_iload_n dX5_joined_95 rfl rfl ?_
      refine ev_iadd (v := a + b) dX5_joined_96 rfl ?_
      refine ev_reti dX5_joined_97 rfl (Nat.zero_le _) (Nat.zero_le _) ?_
      exact ⟨by simp_all [s_jn], rfl⟩
    · subst c1
      refine ev_tableIn (tgt := 83) (off := 82) dX5_joined_1 (by decide) (by decide) rfl (by decide) ?_
      refine ev_iload_n dX5_joined_83 rfl rfl ?_
      refine ev_iload_n dX5_joined_84 rfl rfl ?_
      refine ev_icmp_ne (tgt := 92) dX5_joined_85 (by decide) (fun c2 => ?_) (fun c2 => ?_)
      · skip
        refine ev_iconst (v := 0) dX5_joined_92 (by decide) ?_
        refine ev_reti dX5_joined_93 rfl (Nat.zero_le _) (Nat.zero_le _) ?_
        exact ⟨by simp_all [s_jn], rfl⟩
      · skip
        refine ev_iconst (v := 1) dX5_joined_88 (by decide) ?_
        refine ev_goto (tgt := 93) dX5_joined_89 (by decide) ?_
        refine ev_reti dX5_joined_93 rfl (Nat.zero_le _) (Nat.zero_le _) ?_
        exact ⟨by simp_all [s_jn], rfl⟩
    · subst c1
      refine ev_tableIn (tgt := 72) (off := 71) dX5_joined_1 (by decide) (by decide) rfl (by decide) ?_
      refine ev_iload_n dX5_joined_72 rfl rfl ?_
      refine ev_iload_n dX5_joined_73 rfl rfl ?_
      refine ev_icmp_ge (tgt := 81) dX5_joined_74 (by decide) (fun c3 => ?_) (fun c3 => ?_)
      · skip
        refine ev_iconst (v := 0) dX5_joined_81 (by decide) ?_
        refine ev_reti dX5_joined_82 rfl (Nat.zero_le _) (Nat.zero_le _) ?_
        exact ⟨by simp_all [s_jn], rfl⟩
      · skip
        refine ev_iconst (v := 1) dX5_joined_77 (by decide) ?_
        refine ev_goto (tgt := 82) dX5_joined_78 (by decide) ?_
        refine ev_reti dX5_joined_82 rfl (Nat.zero_le _) (Nat.zero_le _) ?_
        exact ⟨by simp_all [s_jn], rfl⟩
    · subst c1
      refine ev_tableIn (tgt := 102) (off := 101) dX5_joined_1 (by decide) (by decide) rfl (by decide) ?_
      refine ev_iload_n dX5_joined_102 rfl rfl ?_
      refine ev_iload_n dX5_joined_103 rfl rfl ?_
      refine ev_imul (v := a * b) dX5_joined_104 rfl ?_
      refine ev_reti dX5_joined_105 rfl (Nat.zero_le _) (Nat.zero_le _) ?_
      exact ⟨by simp_all [s_jn], rfl⟩
    · subst c1
      refine ev_tableIn (tgt := 58) (off := 57) dX5_joined_1 (by decide) (by decide) rfl (by decide) ?_
      refine ev_iload_n dX5_joined_58 rfl rfl ?_
      refine ev_if_eq (tgt := 70) dX5_joined_59 (by decide) (fun c4 => ?_) (fun c4 => ?_)
      · skip
        refine ev_iconst (v := 0) dX5_joined_70 (by decide) ?_
        refine ev_reti dX5_joined_71 rfl (Nat.zero_le _) (Nat.zero_le _) ?_
        exact ⟨by simp_all [s_jn], rfl⟩
      · skip
        refine ev_iload_n dX5_joined_62 rfl rfl ?_
        refine ev_if_eq (tgt := 70) dX5_joined_63 (by decide) (fun c5 => ?_) (fun c5 => ?_)
        · skip
          refine ev_iconst (v := 0) dX5_joined_70 (by decide) ?_
          refine ev_reti dX5_joined_71 rfl (Nat.zero_le _) (Nat.zero_le _) ?_
          exact ⟨by simp_all [s_jn], rfl⟩
        · skip
          refine ev_iconst (v := 1) dX5_joined_66 (by decide) ?_
          refine ev_goto (tgt := 71) dX5_joined_67 (by decide) ?_
          refine ev_reti dX5_joined_71 rfl (Nat.zero_le _) (Nat.zero_le _) ?_
          exact ⟨by simp_all [s_jn], rfl⟩
    · subst c1
      refine ev_tableIn (tgt := 44) (off := 43) dX5_joined_1 (by decide) (by decide) rfl (by decide) ?_
      refine ev_iload_n dX5_joined_44 rfl rfl ?_
      refine ev_if_ne (tgt := 52) dX5_joined_45 (by decide) (fun c6 => ?_) (fun c6 => ?_)
      · skip
        refine ev_iconst (v := 1) dX5_joined_52 (by decide) ?_
        refine ev_goto (tgt := 57) dX5_joined_53 (by decide) ?_
        refine ev_reti dX5_joined_57 rfl (Nat.zero_le _) (Nat.zero_le _) ?_
        exact ⟨by simp_all [s_jn], rfl⟩
      · skip
        refine ev_iload_n dX5_joined_48 rfl rfl ?_
        refine ev_if_eq (tgt := 56) dX5_joined_49 (by decide) (fun c7 => ?_) (fun c7 => ?_)
        · skip
          refine ev_iconst (v := 0) dX5_joined_56 (by decide) ?_
          refine ev_reti dX5_joined_57 rfl (Nat.zero_le _) (Nat.zero_le _) ?_
          exact ⟨by simp_all [s_jn], rfl⟩
        · skip
          refine ev_iconst (v := 1) dX5_joined_52 (by decide) ?_
          refine ev_goto (tgt := 57) dX5_joined_53 (by decide) ?_
          refine ev_reti dX5_joined_57 rfl (Nat.zero_le _) (Nat.zero_le _) ?_
          exact ⟨by simp_all [s_jn], rfl⟩
  · skip
    refine ev_tableOut (tgt := 102) dX5_joined_1 (by simp [← Int32.toInt_inj] at c1; omega) (by decide) ?_
    refine ev_iload_n dX5_joined_102 rfl rfl ?_
    refine ev_iload_n dX5_joined_103 rfl rfl ?_
    refine ev_imul (v := a * b) dX5_joined_104 rfl ?_
    refine ev_reti dX5_joined_105 rfl (Nat.zero_le _) (Nat.zero_le _) ?_
    exact ⟨by simp_all [s_jn], rfl⟩

set_option maxHeartbeats 400000 in
set_option maxRecDepth 100000 in
theorem c_X4_sign (G : am_G) (D : Nat) (σ : am_M) (c : Int32) : am_Mt G D mX4_sign [.int c] σ 0 0 (am_q (.int (s_sg c)) σ) := by
  refine am_of moX4_sign (Nat.le_of_ble_eq_true rfl) ?_
  show am_Ev G mX4_sign (am_R D 0 0) 0 0 _ 0 [(0, .int c)] [] σ 0 0
  refine ev_iload_n dX4_sign_0 rfl rfl ?_
  by_cases c1 : c = 40 ∨ c = 41 ∨ c = 42 ∨ c = 43 ∨ c = 44 ∨ c = 45 ∨ c = 46 ∨ c = 47 ∨ c = 48 ∨ c = 49 ∨ c = 50 ∨ c = 51 ∨ c = 52 ∨ c = 53 ∨ c = 54 ∨ c = 55 ∨ c = 56 ∨ c = 57 ∨ c = 58 ∨ c = 59 ∨ c = 60 ∨ c = 61
  · rcases c1 with c1 | c1 | c1 | c1 | c1 | c1 | c1 | c1 | c1 | c1 | c1 | c1 | c1 | c1 | c1 | c1 | c1 | c1 | c1 | c1 | c1 | c1
    · subst c1
      refine ev_tableIn (tgt := 104) (off := 103) dX4_sign_1 (by decide) (by decide) rfl (by decide) ?_
      refine ev_bipush (v := (-16)) dX4_sign_104 (by decide) ?_
      refine ev_reti dX4_sign_106 rfl (Nat.zero_le _) (Nat.zero_le _) ?_
      exact ⟨by simp_all [s_sg], rfl⟩
    · subst c1
      refine ev_tableIn (tgt := 107) (off := 106) dX4_sign_1 (by decide) (by decide) rfl (by decide) ?_
      refine ev_bipush (v := (-17)) dX4_sign_107 (by decide) ?_
      refine ev_reti dX4_sign_109 rfl (Nat.zero_le _) (Nat.zero_le _) ?_
      exact ⟨by simp_all [s_sg], rfl⟩
    · subst c1
      refine ev_tableIn (tgt := 119) (off := 118) dX4_sign_1 (by decide) (by decide) rfl (by decide) ?_
      refine ev_bipush (v := (-14)) dX4_sign_119 (by decide) ?_
      refine ev_reti dX4_sign_121 rfl (Nat.zero_le _) (Nat.zero_le _) ?_
      exact ⟨by simp_all [s_sg], rfl⟩
    · subst c1
      refine ev_tableIn (tgt := 113) (off := 112) dX4_sign_1 (by decide) (by decide) rfl (by decide) ?_
      refine ev_bipush (v := (-12)) dX4_sign_113 (by decide) ?_
      refine ev_reti dX4_sign_115 rfl (Nat.zero_le _) (Nat.zero_le _) ?_
      exact ⟨by simp_all [s_sg], rfl⟩
    · subst c1
      refine ev_tableIn (tgt := 128) (off := 127) dX4_sign_1 (by decide) (by decide) rfl (by decide) ?_
      refine ev_bipush (v := (-23)) dX4_sign_128 (by decide) ?_
      refine ev_reti dX4_sign_130 rfl (Nat.zero_le _) (Nat.zero_le _) ?_
      exact ⟨by simp_all [s_sg], rfl⟩
    · subst c1
      refine ev_tableIn (tgt := 116) (off := 115) dX4_sign_1 (by decide) (by decide) rfl (by decide) ?_
      refine ev_bipush (v := (-13)) dX4_sign_116 (by decide) ?_
      refine ev_reti dX4_sign_118 rfl (Nat.zero_le _) (Nat.zero_le _) ?_
      exact ⟨by simp_all [s_sg], rfl⟩
    · subst c1
      refine ev_tableIn (tgt := 128) (off := 127) dX4_sign_1 (by decide) (by decide) rfl (by decide) ?_
      refine ev_bipush (v := (-23)) dX4_sign_128 (by decide) ?_
      refine ev_reti dX4_sign_130 rfl (Nat.zero_le _) (Nat.zero_le _) ?_
      exact ⟨by simp_all [s_sg], rfl⟩
    · subst c1
      refine ev_tableIn (tgt := 128) (off := 127) dX4_sign_1 (by decide) (by decide) rfl (by decide) ?_
      refine ev_bipush (v := (-23)) dX4_sign_128 (by decide) ?_
      refine ev_reti dX4_sign_130 rfl (Nat.zero_le _) (Nat.zero_le _) ?_
      exact ⟨by simp_all [s_sg], rfl⟩
    · subst c1
      refine ev_tableIn (tgt := 128) (off := 127) dX4_sign_1 (by decide) (by decide) rfl (by decide) ?_
      refine ev_bipush (v := (-23)) dX4_sign_128 (by decide) ?_
      refine ev_reti dX4_sign_130 rfl (Nat.zero_le _) (Nat.zero_le _) ?_
      exact ⟨by simp_all [s_sg], rfl⟩
    · subst c1
      refine ev_tableIn (tgt := 128) (off := 127) dX4_sign_1 (by decide) (by decide) rfl (by decide) ?_
      refine ev_bipush (v := (-23)) dX4_sign_128 (by decide) ?_
      refine ev_reti dX4_sign_130 rfl (Nat.zero_le _) (Nat.zero_le _) ?_
      exact ⟨by simp_all [s_sg], rfl⟩
    · subst c1
      refine ev_tableIn (tgt := 128) (off := 127) dX4_sign_1 (by decide) (by decide) rfl (by decide) ?_
      refine ev_bipush (v := (-23)) dX4_sign_128 (by decide) ?_
      refine ev_reti dX4_sign_130 rfl (Nat.zero_le _) (Nat.zero_le _) ?_
      exact ⟨by simp_all [s_sg], rfl⟩
    · subst c1
      refine ev_tableIn (tgt := 128) (off := 127) dX4_sign_1 (by decide) (by decide) rfl (by decide) ?_
      refine ev_bipush (v := (-23)) dX4_sign_128 (by decide) ?_
      refine ev_reti dX4_sign_130 rfl (Nat.zero_le _) (Nat.zero_le _) ?_
      exact ⟨by simp_all [s_sg], rfl⟩
    · subst c1
      refine ev_tableIn (tgt := 128) (off := 127) dX4_sign_1 (by decide) (by decide) rfl (by decide) ?_
      refine ev_bipush (v := (-23)) dX4_sign_128 (by decide) ?_
      refine ev_reti dX4_sign_130 rfl (Nat.zero_le _) (Nat.zero_le _) ?_
      exact ⟨by simp_all [s_sg], rfl⟩
    · subst c1
      refine ev_tableIn (tgt := 128) (off := 127) dX4_sign_1 (by decide) (by decide) rfl (by decide) ?_
      refine ev_bipush (v := (-23)) dX4_sign_128 (by decide) ?_
      refine ev_reti dX4_sign_130 rfl (Nat.zero_le _) (Nat.zero_le _) ?_
      exact ⟨by simp_all [s_sg], rfl⟩
    · subst c1
      refine ev_tableIn (tgt := 128) (off := 127) dX4_sign_1 (by decide) (by decide) rfl (by decide) ?_
      refine ev_bipush (v := (-23)) dX4_sign_128 (by decide) ?_
      refine ev_reti dX4_sign_130 rfl (Nat.zero_le _) (Nat.zero_le _) ?_
      exact ⟨by simp_all [s_sg], rfl⟩
    · subst c1
      refine ev_tableIn (tgt := 128) (off := 127) dX4_sign_1 (by decide) (by decide) rfl (by decide) ?_
      refine ev_bipush (v := (-23)) dX4_sign_128 (by decide) ?_
      refine ev_reti dX4_sign_130 rfl (Nat.zero_le _) (Nat.zero_le _) ?_
      exact ⟨by simp_all [s_sg], rfl⟩
    · subst c1
      refine ev_tableIn (tgt := 128) (off := 127) dX4_sign_1 (by decide) (by decide) rfl (by decide) ?_
      refine ev_bipush (v := (-23)) dX4_sign_128 (by decide) ?_
      refine ev_reti dX4_sign_130 rfl (Nat.zero_le _) (Nat.zero_le _) ?_
      exact ⟨by simp_all [s_sg], rfl⟩
    · subst c1
      refine ev_tableIn (tgt := 128) (off := 127) dX4_sign_1 (by decide) (by decide) rfl (by decide) ?_
      refine ev_bipush (v := (-23)) dX4_sign_128 (by decide) ?_
      refine ev_reti dX4_sign_130 rfl (Nat.zero_le _) (Nat.zero_le _) ?_
      exact ⟨by simp_all [s_sg], rfl⟩
    · subst c1
      refine ev_tableIn (tgt := 128) (off := 127) dX4_sign_1 (by decide) (by decide) rfl (by decide) ?_
      refine ev_bipush (v := (-23)) dX4_sign_128 (by decide) ?_
      refine ev_reti dX4_sign_130 rfl (Nat.zero_le _) (Nat.zero_le _) ?_
      exact ⟨by simp_all [s_sg], rfl⟩
    · subst c1
      refine ev_tableIn (tgt := 110) (off := 109) dX4_sign_1 (by decide) (by decide) rfl (by decide) ?_
      refine ev_bipush (v := (-18)) dX4_sign_110 (by decide) ?_
      refine ev_reti dX4_sign_112 rfl (Nat.zero_le _) (Nat.zero_le _) ?_
      exact ⟨by simp_all [s_sg], rfl⟩
    · subst c1
      refine ev_tableIn (tgt := 122) (off := 121) dX4_sign_1 (by decide) (by decide) rfl (by decide) ?_
      refine ev_bipush (v := (-10)) dX4_sign_122 (by decide) ?_
      refine ev_reti dX4_sign_124 rfl (Nat.zero_le _) (Nat.zero_le _) ?_
      exact ⟨by simp_all [s_sg], rfl⟩
    · subst c1
      refine ev_tableIn (tgt := 125) (off := 124) dX4_sign_1 (by decide) (by decide) rfl (by decide) ?_
      refine ev_bipush (v := (-11)) dX4_sign_125 (by decide) ?_
      refine ev_reti dX4_sign_127 rfl (Nat.zero_le _) (Nat.zero_le _) ?_
      exact ⟨by simp_all [s_sg], rfl⟩
  · skip
    refine ev_tableOut (tgt := 128) dX4_sign_1 (by simp [← Int32.toInt_inj] at c1; omega) (by decide) ?_
    refine ev_bipush (v := (-23)) dX4_sign_128 (by decide) ?_
    refine ev_reti dX4_sign_130 rfl (Nat.zero_le _) (Nat.zero_le _) ?_
    exact ⟨by simp_all [s_sg], rfl⟩

set_option maxHeartbeats 400000 in
set_option maxRecDepth 100000 in
theorem c_X4_isBlank (G : am_G) (D : Nat) (σ : am_M) (v : Int32) : am_Mt G D mX4_isBlank [.int v] σ 0 0 (am_zq (v = 32 ∨ v = 10) σ) := by
  refine am_of moX4_isBlank (Nat.le_of_ble_eq_true rfl) ?_
  show am_Ev G mX4_isBlank (am_R D 0 0) 0 0 _ 0 [(0, .int v)] [] σ 0 0
  refine ev_iload_n dX4_isBlank_0 rfl rfl ?_
  refine ev_bipush (v := 32) dX4_isBlank_1 (by decide) ?_
  refine ev_icmp_eq (tgt := 12) dX4_isBlank_3 (by decide) (fun c1 => ?_) (fun c1 => ?_)
  · skip
    refine ev_iconst (v := 1) dX4_isBlank_12 (by decide) ?_
    refine ev_goto (tgt := 17) dX4_isBlank_13 (by decide) ?_
    refine ev_retz dX4_isBlank_17 rfl (Or.inr rfl) (Nat.zero_le _) (Nat.zero_le _) ?_
    exact Or.inl ⟨by simp_all, rfl, rfl⟩
  · skip
    refine ev_iload_n dX4_isBlank_6 rfl rfl ?_
    refine ev_bipush (v := 10) dX4_isBlank_7 (by decide) ?_
    refine ev_icmp_ne (tgt := 16) dX4_isBlank_9 (by decide) (fun c2 => ?_) (fun c2 => ?_)
    · skip
      refine ev_iconst (v := 0) dX4_isBlank_16 (by decide) ?_
      refine ev_retz dX4_isBlank_17 rfl (Or.inl rfl) (Nat.zero_le _) (Nat.zero_le _) ?_
      exact Or.inr ⟨by simp_all, rfl, rfl⟩
    · skip
      refine ev_iconst (v := 1) dX4_isBlank_12 (by decide) ?_
      refine ev_goto (tgt := 17) dX4_isBlank_13 (by decide) ?_
      refine ev_retz dX4_isBlank_17 rfl (Or.inr rfl) (Nat.zero_le _) (Nat.zero_le _) ?_
      exact Or.inl ⟨by simp_all, rfl, rfl⟩

set_option maxHeartbeats 400000 in
set_option maxRecDepth 100000 in
theorem c_X4_isLetter (G : am_G) (D : Nat) (σ : am_M) (v : Int32) : am_Mt G D mX4_isLetter [.int v] σ 0 0 (am_zq (97 ≤ v ∧ v ≤ 122) σ) := by
  refine am_of moX4_isLetter (Nat.le_of_ble_eq_true rfl) ?_
  show am_Ev G mX4_isLetter (am_R D 0 0) 0 0 _ 0 [(0, .int v)] [] σ 0 0
  refine ev_iload_n dX4_isLetter_0 rfl rfl ?_
  refine ev_bipush (v := 97) dX4_isLetter_1 (by decide) ?_
  refine ev_icmp_lt (tgt := 16) dX4_isLetter_3 (by decide) (fun c1 => ?_) (fun c1 => ?_)
  · skip
    refine ev_iconst (v := 0) dX4_isLetter_16 (by decide) ?_
    refine ev_retz dX4_isLetter_17 rfl (Or.inl rfl) (Nat.zero_le _) (Nat.zero_le _) ?_
    exact Or.inr ⟨by simp only [Int32.lt_iff_toInt_lt, Int32.le_iff_toInt_le] at *; omega, rfl, rfl⟩
  · skip
    refine ev_iload_n dX4_isLetter_6 rfl rfl ?_
    refine ev_bipush (v := 122) dX4_isLetter_7 (by decide) ?_
    refine ev_icmp_gt (tgt := 16) dX4_isLetter_9 (by decide) (fun c2 => ?_) (fun c2 => ?_)
    · skip
      refine ev_iconst (v := 0) dX4_isLetter_16 (by decide) ?_
      refine ev_retz dX4_isLetter_17 rfl (Or.inl rfl) (Nat.zero_le _) (Nat.zero_le _) ?_
      exact Or.inr ⟨by simp only [Int32.lt_iff_toInt_lt, Int32.le_iff_toInt_le] at *; omega, rfl, rfl⟩
    · skip
      refine ev_iconst (v := 1) dX4_isLetter_12 (by decide) ?_
      refine ev_goto (tgt := 17) dX4_isLetter_13 (by decide) ?_
      refine ev_retz dX4_isLetter_17 rfl (Or.inr rfl) (Nat.zero_le _) (Nat.zero_le _) ?_
      exact Or.inl ⟨by simp only [Int32.lt_iff_toInt_lt, Int32.le_iff_toInt_le] at *; omega, rfl, rfl⟩

set_option maxHeartbeats 400000 in
set_option maxRecDepth 100000 in
theorem c_X4_isDigit (G : am_G) (D : Nat) (σ : am_M) (v : Int32) : am_Mt G D mX4_isDigit [.int v] σ 0 0 (am_zq (48 ≤ v ∧ v ≤ 57) σ) := by
  refine am_of moX4_isDigit (Nat.le_of_ble_eq_true rfl) ?_
  show am_Ev G mX4_isDigit (am_R D 0 0) 0 0 _ 0 [(0, .int v)] [] σ 0 0
  refine ev_iload_n dX4_isDigit_0 rfl rfl ?_
  refine ev_bipush (v := 48) dX4_isDigit_1 (by decide) ?_
  refine ev_icmp_lt (tgt := 16) dX4_isDigit_3 (by decide) (fun c1 => ?_) (fun c1 => ?_)
  · skip
    refine ev_iconst (v := 0) dX4_isDigit_16 (by decide) ?_
    refine ev_retz dX4_isDigit_17 rfl (Or.inl rfl) (Nat.zero_le _) (Nat.zero_le _) ?_
    exact Or.inr ⟨by simp only [Int32.lt_iff_toInt_lt, Int32.le_iff_toInt_le] at *; omega, rfl, rfl⟩
  · skip
    refine ev_iload_n dX4_isDigit_6 rfl rfl ?_
    refine ev_bipush (v := 57) dX4_isDigit_7 (by decide) ?_
    refine ev_icmp_gt (tgt := 16) dX4_isDigit_9 (by decide) (fun c2 => ?_) (fun c2 => ?_)
    · skip
      refine ev_iconst (v := 0) dX4_isDigit_16 (by decide) ?_
      refine ev_retz dX4_isDigit_17 rfl (Or.inl rfl) (Nat.zero_le _) (Nat.zero_le _) ?_
      exact Or.inr ⟨by simp only [Int32.lt_iff_toInt_lt, Int32.le_iff_toInt_le] at *; omega, rfl, rfl⟩
    · skip
      refine ev_iconst (v := 1) dX4_isDigit_12 (by decide) ?_
      refine ev_goto (tgt := 17) dX4_isDigit_13 (by decide) ?_
      refine ev_retz dX4_isDigit_17 rfl (Or.inr rfl) (Nat.zero_le _) (Nat.zero_le _) ?_
      exact Or.inl ⟨by simp only [Int32.lt_iff_toInt_lt, Int32.le_iff_toInt_le] at *; omega, rfl, rfl⟩

set_option maxHeartbeats 400000 in
set_option maxRecDepth 100000 in
theorem c_compare (G : am_G) (D : Nat) (σ : am_M) (x y : Int32) : am_Mt G D mJ6_compare_7cf53 [.int x, .int y] σ 0 0 (am_q (.int (s_cmp x y)) σ) := by
  refine am_of moJ6_compare_7cf53 (Nat.le_of_ble_eq_true rfl) ?_
  show am_Ev G mJ6_compare_7cf53 (am_R D 0 0) 0 0 _ 0 [(0, .int x), (1, .int y)] [] σ 0 0
  refine ev_iload_n dJ6_compare_7cf53_0 rfl rfl ?_
  refine ev_iload_n dJ6_compare_7cf53_1 rfl rfl ?_
  refine ev_icmp_ge (tgt := 9) dJ6_compare_7cf53_2 (by decide) (fun c1 => ?_) (fun c1 => ?_)
  · skip
    refine ev_iload_n dJ6_compare_7cf53_9 rfl rfl ?_
    refine ev_iload_n dJ6_compare_7cf53_10 rfl rfl ?_
    refine ev_icmp_ne (tgt := 18) dJ6_compare_7cf53_11 (by decide) (fun c2 => ?_) (fun c2 => ?_)
    · skip
      refine ev_iconst (v := 1) dJ6_compare_7cf53_18 (by decide) ?_
      refine ev_reti dJ6_compare_7cf53_19 rfl (Nat.zero_le _) (Nat.zero_le _) ?_
      exact ⟨by simp_all [s_cmp], rfl⟩
    · skip
      refine ev_iconst (v := 0) dJ6_compare_7cf53_14 (by decide) ?_
      refine ev_goto (tgt := 19) dJ6_compare_7cf53_15 (by decide) ?_
      refine ev_reti dJ6_compare_7cf53_19 rfl (Nat.zero_le _) (Nat.zero_le _) ?_
      exact ⟨by simp_all [s_cmp], rfl⟩
  · skip
    refine ev_iconst (v := (-1)) dJ6_compare_7cf53_5 (by decide) ?_
    refine ev_goto (tgt := 19) dJ6_compare_7cf53_6 (by decide) ?_
    refine ev_reti dJ6_compare_7cf53_19 rfl (Nat.zero_le _) (Nat.zero_le _) ?_
    exact ⟨by simp_all [s_cmp], rfl⟩

