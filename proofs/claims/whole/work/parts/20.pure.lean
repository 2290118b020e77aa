/-! methods without memory -/
set_option maxHeartbeats 4000000 in
set_option maxRecDepth 100000 in
theorem c_X6_isByte (G : am_G) (D : Nat) (σ : am_M) (v : Int32) : am_Mt G D mX6_isByte [.int v] σ 0 0 (am_zq (am_rg v 256) σ) := by
  refine am_of moX6_isByte (Nat.le_of_ble_eq_true rfl) ?_
  show am_Ev G mX6_isByte (am_R D 0 0) 0 0 _ 0 [(0, .int v)] [] σ 0 0
  refine ev_iload_n dX6_isByte_0 rfl rfl ?_
  refine ev_if_lt (tgt := 15) dX6_isByte_1 (by decide) (fun c1 => ?_) (fun c1 => ?_)
  · skip
    refine ev_iconst (v := 0) dX6_isByte_15 (by decide) ?_
    refine ev_retz dX6_isByte_16 rfl (Or.inl rfl) (Nat.zero_le _) (Nat.zero_le _) ?_
    exact Or.inr ⟨by rw [am_rgt (by decide)]; simp only [Int32.lt_iff_toInt_lt, Int32.le_iff_toInt_le, Int32.reduceToInt] at *; omega, rfl, rfl⟩
  · skip
    refine ev_iload_n dX6_isByte_4 rfl rfl ?_
    refine ev_sipush (v := 255) dX6_isByte_5 (by decide) ?_
    refine ev_icmp_gt (tgt := 15) dX6_isByte_8 (by decide) (fun c2 => ?_) (fun c2 => ?_)
    · skip
      refine ev_iconst (v := 0) dX6_isByte_15 (by decide) ?_
      refine ev_retz dX6_isByte_16 rfl (Or.inl rfl) (Nat.zero_le _) (Nat.zero_le _) ?_
      exact Or.inr ⟨by rw [am_rgt (by decide)]; simp only [Int32.lt_iff_toInt_lt, Int32.le_iff_toInt_le, Int32.reduceToInt] at *; omega, rfl, rfl⟩
    · skip
      refine ev_iconst (v := 1) dX6_isByte_11 (by decide) ?_
      refine ev_goto (tgt := 16) dX6_isByte_12 (by decide) ?_
      refine ev_retz dX6_isByte_16 rfl (Or.inr rfl) (Nat.zero_le _) (Nat.zero_le _) ?_
      exact Or.inl ⟨by rw [am_rgt (by decide)]; simp only [Int32.lt_iff_toInt_lt, Int32.le_iff_toInt_le, Int32.reduceToInt] at *; omega, rfl, rfl⟩

set_option maxHeartbeats 4000000 in
set_option maxRecDepth 100000 in
theorem c_X6_isZeroOrOne (G : am_G) (D : Nat) (σ : am_M) (v : Int32) : am_Mt G D mX6_isZeroOrOne [.int v] σ 0 0 (am_zq (v = 0 ∨ v = 1) σ) := by
  refine am_of moX6_isZeroOrOne (Nat.le_of_ble_eq_true rfl) ?_
  show am_Ev G mX6_isZeroOrOne (am_R D 0 0) 0 0 _ 0 [(0, .int v)] [] σ 0 0
  refine ev_iload_n dX6_isZeroOrOne_0 rfl rfl ?_
  refine ev_if_eq (tgt := 9) dX6_isZeroOrOne_1 (by decide) (fun c1 => ?_) (fun c1 => ?_)
  · skip
    refine ev_iconst (v := 1) dX6_isZeroOrOne_9 (by decide) ?_
    refine ev_goto (tgt := 14) dX6_isZeroOrOne_10 (by decide) ?_
    refine ev_retz dX6_isZeroOrOne_14 rfl (Or.inr rfl) (Nat.zero_le _) (Nat.zero_le _) ?_
    exact Or.inl ⟨by simp_all, rfl, rfl⟩
  · skip
    refine ev_iload_n dX6_isZeroOrOne_4 rfl rfl ?_
    refine ev_iconst (v := 1) dX6_isZeroOrOne_5 (by decide) ?_
    refine ev_icmp_ne (tgt := 13) dX6_isZeroOrOne_6 (by decide) (fun c2 => ?_) (fun c2 => ?_)
    · skip
      refine ev_iconst (v := 0) dX6_isZeroOrOne_13 (by decide) ?_
      refine ev_retz dX6_isZeroOrOne_14 rfl (Or.inl rfl) (Nat.zero_le _) (Nat.zero_le _) ?_
      exact Or.inr ⟨by simp_all, rfl, rfl⟩
    · skip
      refine ev_iconst (v := 1) dX6_isZeroOrOne_9 (by decide) ?_
      refine ev_goto (tgt := 14) dX6_isZeroOrOne_10 (by decide) ?_
      refine ev_retz dX6_isZeroOrOne_14 rfl (Or.inr rfl) (Nat.zero_le _) (Nat.zero_le _) ?_
      exact Or.inl ⟨by simp_all, rfl, rfl⟩

set_option maxHeartbeats 4000000 in
set_option maxRecDepth 100000 in
theorem c_X6_isTopic (G : am_G) (D : Nat) (σ : am_M) (v : Int32) : am_Mt G D mX6_isTopic [.int v] σ 0 0 (am_zq (am_rg v 4) σ) := by
  refine am_of moX6_isTopic (Nat.le_of_ble_eq_true rfl) ?_
  show am_Ev G mX6_isTopic (am_R D 0 0) 0 0 _ 0 [(0, .int v)] [] σ 0 0
  refine ev_iload_n dX6_isTopic_0 rfl rfl ?_
  refine ev_if_lt (tgt := 13) dX6_isTopic_1 (by decide) (fun c1 => ?_) (fun c1 => ?_)
  · skip
    refine ev_iconst (v := 0) dX6_isTopic_13 (by decide) ?_
    refine ev_retz dX6_isTopic_14 rfl (Or.inl rfl) (Nat.zero_le _) (Nat.zero_le _) ?_
    exact Or.inr ⟨by rw [am_rgt (by decide)]; simp only [Int32.lt_iff_toInt_lt, Int32.le_iff_toInt_le, Int32.reduceToInt] at *; omega, rfl, rfl⟩
  · skip
    refine ev_iload_n dX6_isTopic_4 rfl rfl ?_
    refine ev_iconst (v := 4) dX6_isTopic_5 (by decide) ?_
    refine ev_icmp_ge (tgt := 13) dX6_isTopic_6 (by decide) (fun c2 => ?_) (fun c2 => ?_)
    · skip
      refine ev_iconst (v := 0) dX6_isTopic_13 (by decide) ?_
      refine ev_retz dX6_isTopic_14 rfl (Or.inl rfl) (Nat.zero_le _) (Nat.zero_le _) ?_
      exact Or.inr ⟨by rw [am_rgt (by decide)]; simp only [Int32.lt_iff_toInt_lt, Int32.le_iff_toInt_le, Int32.reduceToInt] at *; omega, rfl, rfl⟩
    · skip
      refine ev_iconst (v := 1) dX6_isTopic_9 (by decide) ?_
      refine ev_goto (tgt := 14) dX6_isTopic_10 (by decide) ?_
      refine ev_retz dX6_isTopic_14 rfl (Or.inr rfl) (Nat.zero_le _) (Nat.zero_le _) ?_
      exact Or.inl ⟨by rw [am_rgt (by decide)]; simp only [Int32.lt_iff_toInt_lt, Int32.le_iff_toInt_le, Int32.reduceToInt] at *; omega, rfl, rfl⟩

set_option maxHeartbeats 4000000 in
set_option maxRecDepth 100000 in
theorem c_X6_isTable (G : am_G) (D : Nat) (σ : am_M) (v : Int32) : am_Mt G D mX6_isTable [.int v] σ 0 0 (am_zq (am_rg v 3) σ) := by
  refine am_of moX6_isTable (Nat.le_of_ble_eq_true rfl) ?_
  show am_Ev G mX6_isTable (am_R D 0 0) 0 0 _ 0 [(0, .int v)] [] σ 0 0
  refine ev_iload_n dX6_isTable_0 rfl rfl ?_
  refine ev_if_lt (tgt := 13) dX6_isTable_1 (by decide) (fun c1 => ?_) (fun c1 => ?_)
  · skip
    refine ev_iconst (v := 0) dX6_isTable_13 (by decide) ?_
    refine ev_retz dX6_isTable_14 rfl (Or.inl rfl) (Nat.zero_le _) (Nat.zero_le _) ?_
    exact Or.inr ⟨by rw [am_rgt (by decide)]; simp only [Int32.lt_iff_toInt_lt, Int32.le_iff_toInt_le, Int32.reduceToInt] at *; omega, rfl, rfl⟩
  · skip
    refine ev_iload_n dX6_isTable_4 rfl rfl ?_
    refine ev_iconst (v := 3) dX6_isTable_5 (by decide) ?_
    refine ev_icmp_ge (tgt := 13) dX6_isTable_6 (by decide) (fun c2 => ?_) (fun c2 => ?_)
    · skip
      refine ev_iconst (v := 0) dX6_isTable_13 (by decide) ?_
      refine ev_retz dX6_isTable_14 rfl (Or.inl rfl) (Nat.zero_le _) (Nat.zero_le _) ?_
      exact Or.inr ⟨by rw [am_rgt (by decide)]; simp only [Int32.lt_iff_toInt_lt, Int32.le_iff_toInt_le, Int32.reduceToInt] at *; omega, rfl, rfl⟩
    · skip
      refine ev_iconst (v := 1) dX6_isTable_9 (by decide) ?_
      refine ev_goto (tgt := 14) dX6_isTable_10 (by decide) ?_
      refine ev_retz dX6_isTable_14 rfl (Or.inr rfl) (Nat.zero_le _) (Nat.zero_le _) ?_
      exact Or.inl ⟨by rw [am_rgt (by decide)]; simp only [Int32.lt_iff_toInt_lt, Int32.le_iff_toInt_le, Int32.reduceToInt] at *; omega, rfl, rfl⟩

set_option maxHeartbeats 4000000 in
set_option maxRecDepth 100000 in
theorem c_X6_isTableOrNone (G : am_G) (D : Nat) (σ : am_M) (v : Int32) : am_Mt G (D + 1) mX6_isTableOrNone [.int v] σ 0 0 (am_zq (v = -1 ∨ am_rg v 3) σ) := by
  refine am_of moX6_isTableOrNone (Nat.le_of_ble_eq_true rfl) ?_
  show am_Ev G mX6_isTableOrNone (am_R (D + 1) 0 0) 0 0 _ 0 [(0, .int v)] [] σ 0 0
  refine ev_iload_n dX6_isTableOrNone_0 rfl rfl ?_
  refine ev_iconst (v := (-1)) dX6_isTableOrNone_1 (by decide) ?_
  refine ev_icmp_eq (tgt := 12) dX6_isTableOrNone_2 (by decide) (fun c1 => ?_) (fun c1 => ?_)
  · skip
    refine ev_iconst (v := 1) dX6_isTableOrNone_12 (by decide) ?_
    refine ev_goto (tgt := 17) dX6_isTableOrNone_13 (by decide) ?_
    refine ev_retz dX6_isTableOrNone_17 rfl (Or.inr rfl) (Nat.zero_le _) (Nat.zero_le _) ?_
    exact Or.inl ⟨by simp_all, rfl, rfl⟩
  · skip
    refine ev_iload_n dX6_isTableOrNone_5 rfl rfl ?_
    refine ev_callS (as := [.int v]) (st := []) dX6_isTableOrNone_6 mfX6_isTable lk_X6_161 (c_X6_isTable G D σ v) rfl rfl (Nat.le_of_ble_eq_true rfl) (am_hR (by omega) (by decide)) ⟨Nat.le_refl _, Nat.le_refl _⟩ ?_
    rintro _ _ (⟨h2, rfl, rfl⟩ | ⟨h2, rfl, rfl⟩)
    · skip
      refine ev_if_eq (tgt := 16) dX6_isTableOrNone_9 (by decide) (fun c => absurd c (by decide)) (fun _ => ?_)
      refine ev_iconst (v := 1) dX6_isTableOrNone_12 (by decide) ?_
      refine ev_goto (tgt := 17) dX6_isTableOrNone_13 (by decide) ?_
      refine ev_retz dX6_isTableOrNone_17 rfl (Or.inr rfl) (Nat.zero_le _) (Nat.zero_le _) ?_
      exact Or.inl ⟨by simp_all, rfl, rfl⟩
    · skip
      refine ev_if_eq (tgt := 16) dX6_isTableOrNone_9 (by decide) (fun _ => ?_) (fun c => absurd (by decide) c)
      refine ev_iconst (v := 0) dX6_isTableOrNone_16 (by decide) ?_
      refine ev_retz dX6_isTableOrNone_17 rfl (Or.inl rfl) (Nat.zero_le _) (Nat.zero_le _) ?_
      exact Or.inr ⟨by simp_all, rfl, rfl⟩

def am_bd (v a b : Int32) : Int32 := if v < a then a else if b < v then b else v
theorem am_bdc {v a b : Int32} (h : a ≤ b) : (if a < (if v < b then v else b) then (if v < b then v else b) else a) = am_bd v a b := by
  unfold am_bd
  by_cases h1 : v < b
  · rw [if_pos h1]
    have h3 : ¬ b < v := by simp only [Int32.lt_iff_toInt_lt, Int32.le_iff_toInt_le] at *; omega
    by_cases h2 : v < a
    · have h4 : ¬ a < v := by simp only [Int32.lt_iff_toInt_lt, Int32.le_iff_toInt_le] at *; omega
      rw [if_pos h2, if_neg h4]
    · rw [if_neg h2, if_neg h3]
      by_cases h4 : a < v
      · rw [if_pos h4]
      · rw [if_neg h4]
        exact Int32.toInt_inj.mp (by simp only [Int32.lt_iff_toInt_lt, Int32.le_iff_toInt_le] at *; omega)
  · rw [if_neg h1]
    have h2 : ¬ v < a := by simp only [Int32.lt_iff_toInt_lt, Int32.le_iff_toInt_le] at *; omega
    rw [if_neg h2]
    by_cases h3 : b < v
    · rw [if_pos h3]
      by_cases h4 : a < b
      · rw [if_pos h4]
      · rw [if_neg h4]
        exact Int32.toInt_inj.mp (by simp only [Int32.lt_iff_toInt_lt, Int32.le_iff_toInt_le] at *; omega)
    · rw [if_neg h3]
      have e : v = b := Int32.toInt_inj.mp (by simp only [Int32.lt_iff_toInt_lt, Int32.le_iff_toInt_le] at *; omega)
      subst e
      by_cases h4 : a < v
      · rw [if_pos h4]
      · rw [if_neg h4]
        exact Int32.toInt_inj.mp (by simp only [Int32.lt_iff_toInt_lt, Int32.le_iff_toInt_le] at *; omega)
set_option maxHeartbeats 4000000 in
set_option maxRecDepth 100000 in
theorem c_X6_bounded (G : am_G) (D : Nat) (σ : am_M) (v a b : Int32) (hab : a ≤ b) : am_Mt G (D + 1) mX6_bounded [.int v, .int a, .int b] σ 0 0 (am_q (.int (am_bd v a b)) σ) := by
  refine am_of moX6_bounded (Nat.le_of_ble_eq_true rfl) ?_
  show am_Ev G mX6_bounded (am_R (D + 1) 0 0) 0 0 _ 0 [(0, .int v), (1, .int a), (2, .int b)] [] σ 0 0
  refine ev_iload_n dX6_bounded_0 rfl rfl ?_
  refine ev_iload_n dX6_bounded_1 rfl rfl ?_
  refine ev_iload_n dX6_bounded_2 rfl rfl ?_
  refine ev_min (v := if v < b then v else b) dX6_bounded_3 lk_X6_295 rfl (Nat.le_of_ble_eq_true rfl) ⟨Nat.le_add_left _ _, by simp only [am_R]; omega⟩ ⟨Nat.zero_le _, Nat.zero_le _⟩ ?_
  refine ev_max (v := if a < if v < b then v else b then if v < b then v else b else a) dX6_bounded_6 lk_X6_300 rfl (Nat.le_of_ble_eq_true rfl) ⟨Nat.le_add_left _ _, by simp only [am_R]; omega⟩ ⟨Nat.zero_le _, Nat.zero_le _⟩ ?_
  refine ev_reti dX6_bounded_9 rfl (Nat.zero_le _) (Nat.zero_le _) ?_
  exact ⟨by rw [am_bdc hab], rfl⟩

