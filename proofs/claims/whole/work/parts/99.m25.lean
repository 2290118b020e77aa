/-! the class's constructors -/
theorem cl_nw {m c n : Nat} {W : Nat → Nat → Int32} {R : Nat → Nat → Option Nat} (hK : ly_K[m]? = some (c, n)) (hm : m < 89) (hW : ∀ k, W m k = 0) (hR : ∀ k, R m k = none) : am_nw (ly_K.take m, W, R) c n = (ly_K.take (m + 1), W, R) := by
  have hl : (ly_K.take m).length = m := by rw [List.length_take, show ly_K.length = 89 from rfl]; omega
  have e1 : ly_K.take m ++ [(c, n)] = ly_K.take (m + 1) := by rw [List.take_succ, hK]; rfl
  have e2 : (fun x y => if x = (ly_K.take m).length then (0 : Int32) else W x y) = W := by
    funext x y
    by_cases h : x = m
    · subst h; rw [if_pos hl.symm, hW]
    · rw [if_neg (by omega)]
  have e3 : (fun x y => if x = (ly_K.take m).length then none else R x y) = R := by
    funext x y
    by_cases h : x = m
    · subst h; rw [if_pos hl.symm, hR]
    · rw [if_neg (by omega)]
  show (ly_K.take m ++ [(c, n)], (fun x y => if x = (ly_K.take m).length then (0 : Int32) else W x y), (fun x y => if x = (ly_K.take m).length then none else R x y)) = _
  rw [e1, e2, e3]
theorem cl_len {m : Nat} {W : Nat → Nat → Int32} {R : Nat → Nat → Option Nat} (hm : m < 89) : ((ly_K.take m, W, R) : am_M).1.length = m := by
  show (ly_K.take m).length = m
  rw [List.length_take, show ly_K.length = 89 from rfl]; omega
theorem cl_k {m a : Nat} {k : Nat × Nat} {W : Nat → Nat → Int32} {R : Nat → Nat → Option Nat} (ha : a < m) (h : ly_K[a]? = some k) : ((ly_K.take m, W, R) : am_M).1[a]? = some k := by
  show (ly_K.take m)[a]? = _
  rw [List.getElem?_take, if_pos ha]; exact h
set_option maxHeartbeats 400000 in
set_option maxRecDepth 100000 in
theorem c_X4_init (G : am_G) (D : Nat) (W : Nat → Nat → Int32) (R : Nat → Nat → Option Nat) (hW39 : ∀ k, W 39 k = 0) (hR39 : ∀ k, R 39 k = none) (hW40 : ∀ k, W 40 k = 0) (hR40 : ∀ k, R 40 k = none) : am_Mt G (D + 1) mX4_init [.ref 38] (ly_K.take 39, W, R) 2 320 (fun r σ' => r = none ∧ σ' = (ly_K.take 41, W, (am_up (am_up R 38 0 (some 39)) 38 1 (some 40)))) := by
  refine am_of moX4_init (Nat.le_of_ble_eq_true rfl) ?_
  show am_Ev G mX4_init (am_R (D + 1) 2 320) 2 320 (fun r σ' => r = none ∧ σ' = (ly_K.take 41, W, (am_up (am_up R 38 0 (some 39)) 38 1 (some 40)))) 0 [(0, .ref 38)] [] (ly_K.take 39, W, R) 0 0
  refine ev_aload_n dX4_init_0 rfl rfl ?_
  refine ev_obj dX4_init_1 lk_X4_1 (Nat.le_of_ble_eq_true rfl) ⟨Nat.le_add_left _ _, by simp only [am_R]; omega⟩ ?_
  refine ev_aload_n dX4_init_4 rfl rfl ?_
  refine ev_sipush (v := 160) dX4_init_5 (by decide) ?_
  refine ev_newa (L := 39) (N := 160) dX4_init_8 (by decide) rfl (by decide) (cl_len (by decide)) (Nat.le_of_ble_eq_true rfl) (Nat.le_of_ble_eq_true rfl) ?_
  rw [cl_nw (m := 39) (c := 10) (n := 160) rfl (by decide) (fun k => by simp [am_up, hW39, hR39, hW40, hR40]) (fun k => by simp [am_up, hW39, hR39, hW40, hR40])]
  refine ev_putRF dX4_init_10 fl_X4_9 (fln_X4_9) rfl (by decide) (by decide) (cl_k (by decide) rfl) ?_
  change am_Ev G mX4_init _ _ _ _ _ _ _ (ly_K.take 40, W, (am_up R 38 0 (some 39))) _ _
  refine ev_aload_n dX4_init_13 rfl rfl ?_
  refine ev_sipush (v := 160) dX4_init_14 (by decide) ?_
  refine ev_newa (L := 40) (N := 160) dX4_init_17 (by decide) rfl (by decide) (cl_len (by decide)) (Nat.le_of_ble_eq_true rfl) (Nat.le_of_ble_eq_true rfl) ?_
  rw [cl_nw (m := 40) (c := 10) (n := 160) rfl (by decide) (fun k => by simp [am_up, hW39, hR39, hW40, hR40]) (fun k => by simp [am_up, hW39, hR39, hW40, hR40])]
  refine ev_putRF dX4_init_19 fl_X4_13 (fln_X4_13) rfl (by decide) (by decide) (cl_k (by decide) rfl) ?_
  change am_Ev G mX4_init _ _ _ _ _ _ _ (ly_K.take 41, W, (am_up (am_up R 38 0 (some 39)) 38 1 (some 40))) _ _
  refine ev_retv dX4_init_22 rfl (Nat.le_of_ble_eq_true rfl) (Nat.le_of_ble_eq_true rfl) ?_
  exact ⟨rfl, rfl⟩

set_option maxHeartbeats 400000 in
set_option maxRecDepth 100000 in
theorem c_X0_init (G : am_G) (D : Nat) (W : Nat → Nat → Int32) (R : Nat → Nat → Option Nat) (hW55 : ∀ k, W 55 k = 0) (hR55 : ∀ k, R 55 k = none) (hW56 : ∀ k, W 56 k = 0) (hR56 : ∀ k, R 56 k = none) (hW57 : ∀ k, W 57 k = 0) (hR57 : ∀ k, R 57 k = none) (hW58 : ∀ k, W 58 k = 0) (hR58 : ∀ k, R 58 k = none) : am_Mt G (D + 1) mX0_init [.ref 54] (ly_K.take 55, W, R) 4 78 (fun r σ' => r = none ∧ σ' = (ly_K.take 59, W, (am_up (am_up (am_up (am_up R 54 0 (some 55)) 54 1 (some 56)) 54 2 (some 57)) 54 3 (some 58)))) := by
  refine am_of moX0_init (Nat.le_of_ble_eq_true rfl) ?_
  show am_Ev G mX0_init (am_R (D + 1) 4 78) 4 78 (fun r σ' => r = none ∧ σ' = (ly_K.take 59, W, (am_up (am_up (am_up (am_up R 54 0 (some 55)) 54 1 (some 56)) 54 2 (some 57)) 54 3 (some 58)))) 0 [(0, .ref 54)] [] (ly_K.take 55, W, R) 0 0
  refine ev_aload_n dX0_init_0 rfl rfl ?_
  refine ev_obj dX0_init_1 lk_X0_3 (Nat.le_of_ble_eq_true rfl) ⟨Nat.le_add_left _ _, by simp only [am_R]; omega⟩ ?_
  refine ev_aload_n dX0_init_4 rfl rfl ?_
  refine ev_bipush (v := 56) dX0_init_5 (by decide) ?_
  refine ev_newa (L := 55) (N := 56) dX0_init_7 (by decide) rfl (by decide) (cl_len (by decide)) (Nat.le_of_ble_eq_true rfl) (Nat.le_of_ble_eq_true rfl) ?_
  rw [cl_nw (m := 55) (c := 10) (n := 56) rfl (by decide) (fun k => by simp [am_up, hW55, hR55, hW56, hR56, hW57, hR57, hW58, hR58]) (fun k => by simp [am_up, hW55, hR55, hW56, hR56, hW57, hR57, hW58, hR58])]
  refine ev_putRF dX0_init_9 fl_X0_9 (fln_X0_9) rfl (by decide) (by decide) (cl_k (by decide) rfl) ?_
  change am_Ev G mX0_init _ _ _ _ _ _ _ (ly_K.take 56, W, (am_up R 54 0 (some 55))) _ _
  refine ev_aload_n dX0_init_12 rfl rfl ?_
  refine ev_bipush (v := 8) dX0_init_13 (by decide) ?_
  refine ev_newa (L := 56) (N := 8) dX0_init_15 (by decide) rfl (by decide) (cl_len (by decide)) (Nat.le_of_ble_eq_true rfl) (Nat.le_of_ble_eq_true rfl) ?_
  rw [cl_nw (m := 56) (c := 10) (n := 8) rfl (by decide) (fun k => by simp [am_up, hW55, hR55, hW56, hR56, hW57, hR57, hW58, hR58]) (fun k => by simp [am_up, hW55, hR55, hW56, hR56, hW57, hR57, hW58, hR58])]
  refine ev_putRF dX0_init_17 fl_X0_15 (fln_X0_15) rfl (by decide) (by decide) (cl_k (by decide) rfl) ?_
  change am_Ev G mX0_init _ _ _ _ _ _ _ (ly_K.take 57, W, (am_up (am_up R 54 0 (some 55)) 54 1 (some 56))) _ _
  refine ev_aload_n dX0_init_20 rfl rfl ?_
  refine ev_bipush (v := 8) dX0_init_21 (by decide) ?_
  refine ev_newa (L := 57) (N := 8) dX0_init_23 (by decide) rfl (by decide) (cl_len (by decide)) (Nat.le_of_ble_eq_true rfl) (Nat.le_of_ble_eq_true rfl) ?_
  rw [cl_nw (m := 57) (c := 10) (n := 8) rfl (by decide) (fun k => by simp [am_up, hW55, hR55, hW56, hR56, hW57, hR57, hW58, hR58]) (fun k => by simp [am_up, hW55, hR55, hW56, hR56, hW57, hR57, hW58, hR58])]
  refine ev_putRF dX0_init_25 fl_X0_18 (fln_X0_18) rfl (by decide) (by decide) (cl_k (by decide) rfl) ?_
  change am_Ev G mX0_init _ _ _ _ _ _ _ (ly_K.take 58, W, (am_up (am_up (am_up R 54 0 (some 55)) 54 1 (some 56)) 54 2 (some 57))) _ _
  refine ev_aload_n dX0_init_28 rfl rfl ?_
  refine ev_bipush (v := 6) dX0_init_29 (by decide) ?_
  refine ev_newa (L := 58) (N := 6) dX0_init_31 (by decide) rfl (by decide) (cl_len (by decide)) (Nat.le_of_ble_eq_true rfl) (Nat.le_of_ble_eq_true rfl) ?_
  rw [cl_nw (m := 58) (c := 10) (n := 6) rfl (by decide) (fun k => by simp [am_up, hW55, hR55, hW56, hR56, hW57, hR57, hW58, hR58]) (fun k => by simp [am_up, hW55, hR55, hW56, hR56, hW57, hR57, hW58, hR58])]
  refine ev_putRF dX0_init_33 fl_X0_23 (fln_X0_23) rfl (by decide) (by decide) (cl_k (by decide) rfl) ?_
  change am_Ev G mX0_init _ _ _ _ _ _ _ (ly_K.take 59, W, (am_up (am_up (am_up (am_up R 54 0 (some 55)) 54 1 (some 56)) 54 2 (some 57)) 54 3 (some 58))) _ _
  refine ev_retv dX0_init_36 rfl (Nat.le_of_ble_eq_true rfl) (Nat.le_of_ble_eq_true rfl) ?_
  exact ⟨rfl, rfl⟩

set_option maxHeartbeats 400000 in
set_option maxRecDepth 100000 in
theorem c_X2_init (G : am_G) (D : Nat) (W : Nat → Nat → Int32) (R : Nat → Nat → Option Nat) (hW51 : ∀ k, W 51 k = 0) (hR51 : ∀ k, R 51 k = none) (hW52 : ∀ k, W 52 k = 0) (hR52 : ∀ k, R 52 k = none) (hW53 : ∀ k, W 53 k = 0) (hR53 : ∀ k, R 53 k = none) : am_Mt G (D + 1) mX2_init [.ref 50] (ly_K.take 51, W, R) 3 38 (fun r σ' => r = none ∧ σ' = (ly_K.take 54, W, (am_up (am_up (am_up R 50 0 (some 51)) 50 1 (some 52)) 50 2 (some 53)))) := by
  refine am_of moX2_init (Nat.le_of_ble_eq_true rfl) ?_
  show am_Ev G mX2_init (am_R (D + 1) 3 38) 3 38 (fun r σ' => r = none ∧ σ' = (ly_K.take 54, W, (am_up (am_up (am_up R 50 0 (some 51)) 50 1 (some 52)) 50 2 (some 53)))) 0 [(0, .ref 50)] [] (ly_K.take 51, W, R) 0 0
  refine ev_aload_n dX2_init_0 rfl rfl ?_
  refine ev_obj dX2_init_1 lk_X2_3 (Nat.le_of_ble_eq_true rfl) ⟨Nat.le_add_left _ _, by simp only [am_R]; omega⟩ ?_
  refine ev_aload_n dX2_init_4 rfl rfl ?_
  refine ev_bipush (v := 28) dX2_init_5 (by decide) ?_
  refine ev_newa (L := 51) (N := 28) dX2_init_7 (by decide) rfl (by decide) (cl_len (by decide)) (Nat.le_of_ble_eq_true rfl) (Nat.le_of_ble_eq_true rfl) ?_
  rw [cl_nw (m := 51) (c := 10) (n := 28) rfl (by decide) (fun k => by simp [am_up, hW51, hR51, hW52, hR52, hW53, hR53]) (fun k => by simp [am_up, hW51, hR51, hW52, hR52, hW53, hR53])]
  refine ev_putRF dX2_init_9 fl_X2_9 (fln_X2_9) rfl (by decide) (by decide) (cl_k (by decide) rfl) ?_
  change am_Ev G mX2_init _ _ _ _ _ _ _ (ly_K.take 52, W, (am_up R 50 0 (some 51))) _ _
  refine ev_aload_n dX2_init_12 rfl rfl ?_
  refine ev_bipush (v := 7) dX2_init_13 (by decide) ?_
  refine ev_newa (L := 52) (N := 7) dX2_init_15 (by decide) rfl (by decide) (cl_len (by decide)) (Nat.le_of_ble_eq_true rfl) (Nat.le_of_ble_eq_true rfl) ?_
  rw [cl_nw (m := 52) (c := 10) (n := 7) rfl (by decide) (fun k => by simp [am_up, hW51, hR51, hW52, hR52, hW53, hR53]) (fun k => by simp [am_up, hW51, hR51, hW52, hR52, hW53, hR53])]
  refine ev_putRF dX2_init_17 fl_X2_15 (fln_X2_15) rfl (by decide) (by decide) (cl_k (by decide) rfl) ?_
  change am_Ev G mX2_init _ _ _ _ _ _ _ (ly_K.take 53, W, (am_up (am_up R 50 0 (some 51)) 50 1 (some 52))) _ _
  refine ev_aload_n dX2_init_20 rfl rfl ?_
  refine ev_iconst (v := 3) dX2_init_21 (by decide) ?_
  refine ev_newa (L := 53) (N := 3) dX2_init_22 (by decide) rfl (by decide) (cl_len (by decide)) (Nat.le_of_ble_eq_true rfl) (Nat.le_of_ble_eq_true rfl) ?_
  rw [cl_nw (m := 53) (c := 10) (n := 3) rfl (by decide) (fun k => by simp [am_up, hW51, hR51, hW52, hR52, hW53, hR53]) (fun k => by simp [am_up, hW51, hR51, hW52, hR52, hW53, hR53])]
  refine ev_putRF dX2_init_24 fl_X2_18 (fln_X2_18) rfl (by decide) (by decide) (cl_k (by decide) rfl) ?_
  change am_Ev G mX2_init _ _ _ _ _ _ _ (ly_K.take 54, W, (am_up (am_up (am_up R 50 0 (some 51)) 50 1 (some 52)) 50 2 (some 53))) _ _
  refine ev_retv dX2_init_27 rfl (Nat.le_of_ble_eq_true rfl) (Nat.le_of_ble_eq_true rfl) ?_
  exact ⟨rfl, rfl⟩

set_option maxHeartbeats 400000 in
set_option maxRecDepth 100000 in
theorem c_X3_init (G : am_G) (D : Nat) (m L : Nat) (W : Nat → Nat → Int32) (R : Nat → Nat → Option Nat) (hL : L < m) (hk : ly_K[L]? = some (3, 3)) (hK : ly_K[m]? = some (10, 40)) (hm : m < 89) (hW : ∀ k, W m k = 0) (hR : ∀ k, R m k = none) : am_Mt G (D + 1) mX3_init [.ref L] (ly_K.take m, W, R) 1 40 (fun r σ' => r = none ∧ σ' = (ly_K.take (m + 1), am_up W L 1 (-1), am_up R L 0 (some m))) := by
  refine am_of moX3_init (Nat.le_of_ble_eq_true rfl) ?_
  show am_Ev G mX3_init (am_R (D + 1) 1 40) 1 40 (fun r σ' => r = none ∧ σ' = (ly_K.take (m + 1), am_up W L 1 (-1), am_up R L 0 (some m))) 0 [(0, .ref L)] [] (ly_K.take m, W, R) 0 0
  refine ev_aload_n dX3_init_0 rfl rfl ?_
  refine ev_obj dX3_init_1 lk_X3_1 (Nat.le_of_ble_eq_true rfl) ⟨Nat.le_add_left _ _, by simp only [am_R]; omega⟩ ?_
  refine ev_aload_n dX3_init_4 rfl rfl ?_
  refine ev_bipush (v := 40) dX3_init_5 (by decide) ?_
  refine ev_newa (L := m) (N := 40) dX3_init_7 (by decide) rfl (by decide) (cl_len hm) (Nat.le_of_ble_eq_true rfl) (Nat.le_of_ble_eq_true rfl) ?_
  rw [cl_nw (m := m) (c := 10) (n := 40) hK hm hW hR]
  refine ev_putRF dX3_init_9 fl_X3_9 (fln_X3_9) rfl (by decide) (by decide) (cl_k (by omega) hk) ?_
  change am_Ev G mX3_init _ _ _ _ _ _ _ (ly_K.take (m + 1), W, (am_up R L 0 (some m))) _ _
  refine ev_aload_n dX3_init_12 rfl rfl ?_
  refine ev_iconst (v := (-1)) dX3_init_13 (by decide) ?_
  refine ev_putI dX3_init_14 fl_X3_13 rfl rfl (cl_k (by omega) hk) ?_
  change am_Ev G mX3_init _ _ _ _ _ _ _ (ly_K.take (m + 1), (am_up W L 1 (-1)), (am_up R L 0 (some m))) _ _
  refine ev_retv dX3_init_17 rfl (Nat.le_of_ble_eq_true rfl) (Nat.le_of_ble_eq_true rfl) ?_
  exact ⟨rfl, rfl⟩

/-- the first text on the tape -/
def am_wr (σ0 : am_M) (i : Nat) (σ : am_M) : Prop := σ.1 = σ0.1 ∧ σ.2.2 = σ0.2.2 ∧ (∀ x k, x ≠ 39 → ¬ (x = 38 ∧ k = 2) → σ.2.1 x k = σ0.2.1 x k) ∧ σ.2.1 38 2 = nI i ∧ ∀ k, σ.2.1 39 k = if k < i then b0_T k else σ0.2.1 39 k
theorem c_X4_write (G : am_G) (D : Nat) (σ : am_M) (hT : ty_T σ) (h2 : σ.2.1 38 2 = nI 0) : am_Mt G (D + 4) mX4_write [.ref 38, .ref 2] σ 0 0 (fun r σ' => r = none ∧ am_wr σ 50 σ') := by
  refine am_of moX4_write (Nat.le_of_ble_eq_true rfl) ?_
  show am_Ev G mX4_write (am_R (D + 4) 0 0) 0 0 _ 0 [(0, .ref 38), (1, .ref 2)] [] σ 0 0
  refine ev_iconst (v := 0) dX4_write_0 (by decide) ?_
  refine ev_istore_n (lv' := [(0, .ref 38), (1, .ref 2), (2, .int 0)]) dX4_write_1 rfl (by decide) rfl ?_
  have lp : ∀ (f : Nat) (i : Nat) (υ : am_M), i ≤ 50 → am_wr σ i υ → 50 - i < f → am_Ev G mX4_write (am_R (D + 4) 0 0) 0 0 (fun r σ' => r = none ∧ am_wr σ 50 σ') 2 [(0, .ref 38), (1, .ref 2), (2, .int (nI i))] [] υ 0 0 := by
    intro f
    induction f with
    | zero => intro i υ _ _ hf; exact absurd hf (Nat.not_lt_zero _)
    | succ f ih =>
      intro i υ hi hw hf
      obtain ⟨w1, w2, w3, w4, w5⟩ := hw
      have hTu : ty_T υ := by unfold ty_T; rw [w1, w2]; exact hT
      refine ev_iload_n dX4_write_2 rfl rfl ?_
      refine ev_aload_n dX4_write_3 rfl rfl ?_
      refine ev_callT (as := []) (st := [.int (nI i)]) dX4_write_4 mfJ0_length_8abf5 lk_X4_20 (i := 0) (by decide) rfl (c_length G D υ 0 (by decide)) rfl rfl (Nat.le_of_ble_eq_true rfl) (am_hR (by omega) (by decide)) ⟨Nat.le_refl _, Nat.le_refl _⟩ ?_
      rintro _ _ ⟨rfl, rfl⟩
      change am_Ev G mX4_write _ _ _ _ _ _ [.int (nI 50), .int (nI i)] _ _ _
      refine ev_icmp_ge (tgt := 25) dX4_write_7 (by decide) (fun c => ?_) (fun c => ?_)
      · have ei : i = 50 := by
          have := (nI_leI (a := 50) (b := i) (by decide) (by omega)).mp c
          omega
        subst ei
        exact ev_retv dX4_write_25 rfl (Nat.le_refl _) (Nat.le_refl _) ⟨rfl, w1, w2, w3, w4, w5⟩
      · have ci : i < 50 := by
          have : ¬ 50 ≤ i := fun z => c ((nI_leI (a := 50) (b := i) (by decide) (by omega)).mpr z)
          omega
        refine ev_aload_n dX4_write_10 rfl rfl ?_
        refine ev_aload_n dX4_write_11 rfl rfl ?_
        refine ev_iload_n dX4_write_12 rfl rfl ?_
        refine ev_callT (as := [.int (nI i)]) (st := [.ref 38]) dX4_write_13 mfJ0_charAt_5068e lk_X4_26 (i := 0) (by decide) rfl (c_charAt G D υ 0 i (by decide) (by show i < 50; exact ci)) rfl rfl (Nat.le_of_ble_eq_true rfl) (am_hR (by omega) (by decide)) ⟨Nat.le_refl _, Nat.le_refl _⟩ ?_
        rintro _ _ ⟨rfl, rfl⟩
        refine ev_callV (as := [.int (am_sc 0 i)]) (st := []) dX4_write_16 mfX4_put lk_X4_30 hTu.1 (by decide) rfl (c_X4_put G D υ hTu i (by omega) w4 (am_sc 0 i)) rfl rfl (Nat.le_of_ble_eq_true rfl) (am_hR (by omega) (by decide)) ⟨Nat.le_refl _, Nat.le_refl _⟩ ?_
        rintro _ _ ⟨rfl, rfl⟩
        refine ev_iinc (lv' := [(0, .ref 38), (1, .ref 2), (2, .int (nI (i + 1)))]) (v := nI (i + 1)) dX4_write_19 rfl (nI_1 _) (by decide) rfl ?_
        refine ev_goto (tgt := 2) dX4_write_22 (by decide) ?_
        refine ih (i + 1) _ (by omega) ⟨w1, w2, fun x k h1 h3 => (am_un (by omega)).trans ((am_un (by omega)).trans (w3 x k h1 h3)), am_rs, fun k => ?_⟩ (by omega)
        refine am_ru (by omega) ?_
        by_cases e : k = i
        · subst e
          rw [if_pos (by omega)]
          exact am_rs
        · refine am_ru (by omega) ((w5 k).trans ?_)
          by_cases d : k < i
          · rw [if_pos d, if_pos (by omega)]
          · rw [if_neg d, if_neg (by omega)]
  exact lp _ 0 σ (by decide) ⟨rfl, rfl, fun _ _ _ _ => rfl, h2, fun k => by rw [if_neg (Nat.not_lt_zero _)]⟩ (Nat.lt_succ_self _)
def c6_W : Nat → Nat → Int32 := (am_up (am_up (am_up (am_up (am_up (am_up (am_up (fun _ _ => 0) 36 0 (-1)) 36 1 (-1)) 36 2 (-1)) 42 1 (-1)) 44 1 (-1)) 46 1 (-1)) 48 1 (-1))
def c6_R : Nat → Nat → Option Nat := (am_up (am_up (am_up (am_up (am_up (am_up (am_up (am_up (am_up (am_up (am_up (am_up (am_up (am_up (am_up (am_up (am_up (am_up (am_up (am_up (am_up (am_up (am_up (am_up (am_up (am_up (am_up (am_up (am_up (fun _ _ => none) 32 0 (some 33)) 32 1 (some 34)) 32 2 (some 35)) 32 3 (some 36)) 32 4 (some 37)) 38 0 (some 39)) 38 1 (some 40)) 32 5 (some 38)) 42 0 (some 43)) 41 0 (some 42)) 44 0 (some 45)) 41 1 (some 44)) 46 0 (some 47)) 41 2 (some 46)) 48 0 (some 49)) 41 3 (some 48)) 32 6 (some 41)) 50 0 (some 51)) 50 1 (some 52)) 50 2 (some 53)) 32 7 (some 50)) 54 0 (some 55)) 54 1 (some 56)) 54 2 (some 57)) 54 3 (some 58)) 32 8 (some 54)) 32 9 (some 59)) 32 10 (some 60)) 32 11 (some 61))
/-- the class's memory behind its constructor -/
def c6_P (σ : am_M) : Prop := σ.1 = ly_K.take 65 ∧ (∀ q ∈ ly_R, q.1 < 65 → σ.2.2 q.1 q.2.1 = some q.2.2) ∧ (σ.2.2 37 0 = some 62 ∧ σ.2.2 62 0 = some 63 ∧ σ.2.2 62 3 = some 64) ∧ (∀ x k, x < 62 → x ≠ 39 → x ≠ 40 → ¬ (x = 38 ∧ 2 ≤ k) → ¬ (x = 32 ∧ k = 14) → σ.2.1 x k = c6_W x k) ∧ σ.2.1 39 = b0_T ∧ σ.2.1 38 2 = 0 ∧ σ.2.1 32 14 = 1 ∧ σ.2.1 62 1 = nI (tx (lx_nx b0_T 50)).2.1.1.length ∧ σ.2.1 62 2 = nI ((tx (lx_nx b0_T 50)).2.1.1 ++ (tx (lx_nx b0_T 50)).2.1.2.1).length ∧ ∀ k, k < 7 → σ.2.1 63 k = cx_st (((tx (lx_nx b0_T 50)).2.1.1 ++ (tx (lx_nx b0_T 50)).2.1.2.1 ++ (tx (lx_nx b0_T 50)).2.1.2.2).getD k 0)
def c6_Q : Option Value → am_M → Prop := fun r σ => r = none ∧ c6_P σ
theorem c6_RR : ∀ q ∈ ly_R, q.1 < 65 → c6_R q.1 q.2.1 = some q.2.2 := by decide +kernel
theorem ly_R62 : ∀ q ∈ ly_R, q.1 < 65 → q.1 < 62 ∧ q.1 ≠ 37 := by decide +kernel
theorem c6_W39 : ∀ k, c6_W 39 k = 0 := fun k => by simp [c6_W, am_up]
set_option maxHeartbeats 400000 in
theorem c6_tail (G : am_G) (D : Nat) : am_Ev G mX6_init (am_R (D + 46) 32 896) 32 896 c6_Q 161 [(0, .ref 32)] [] (ly_K.take 62, c6_W, c6_R) 29 700 := by
  have r1 : ∀ q ∈ ly_R, q.1 < 65 → ((ly_K.take 62, c6_W, c6_R) : am_M).2.2 q.1 q.2.1 = some q.2.2 := c6_RR
  refine ev_aload_n dX6_init_161 rfl rfl ?_
  refine ev_getR (b := 38) dX6_init_162 fl_X6_34 (cl_k (by decide) rfl) rfl ?_
  refine ev_ldcS (i := 0) dX6_init_165 rfl ?_
  refine ev_callV (as := [.ref 2]) (st := []) dX6_init_167 mfX4_write lk_X6_70 (cl_k (by decide) rfl) (by decide) rfl (c_X4_write G (D + 41) (ly_K.take 62, c6_W, c6_R) ⟨cl_k (by decide) rfl, cl_k (by decide) rfl, cl_k (by decide) rfl, rfl, rfl⟩ rfl) rfl rfl (Nat.le_of_ble_eq_true rfl) (am_hR (by omega) (by decide)) ⟨Nat.le_of_ble_eq_true rfl, Nat.le_of_ble_eq_true rfl⟩ ?_
  rintro _ σ ⟨rfl, w1, w2, w3, w4, w5⟩
  have w1 : σ.1 = ly_K.take 62 := w1
  have w2 : σ.2.2 = c6_R := w2
  have e39 : σ.2.1 39 = b0_T := funext fun k => by
    rw [w5 k]
    by_cases c : k < 50
    · rw [if_pos c]
    · rw [if_neg c, am_g50 c]; exact c6_W39 k
  have hk : ∀ (a : Nat) (k : Nat × Nat), a < 62 → ly_K[a]? = some k → σ.1[a]? = some k := fun a k ha h => by
    rw [w1, List.getElem?_take, if_pos ha]; exact h
  have hl : σ.1.length = 62 := by rw [w1]; rfl
  have hB : tb_T b0_T 50 σ := ⟨⟨hk 38 _ (by decide) rfl, hk 39 _ (by decide) rfl, hk 40 _ (by decide) rfl, by rw [w2]; rfl, by rw [w2]; rfl⟩, w4, by decide, fun i _ => congrFun e39 i⟩
  refine ev_aload_n dX6_init_170 rfl rfl ?_
  refine ev_getR (b := 37) dX6_init_171 fl_X6_27 (hk 32 _ (by decide) rfl) (by rw [w2]; rfl) ?_
  refine ev_iconst (v := 0) dX6_init_174 (by decide) ?_
  refine ev_aload_n dX6_init_175 rfl rfl ?_
  refine ev_getR (b := 38) dX6_init_176 fl_X6_34 (hk 32 _ (by decide) rfl) (by rw [w2]; rfl) ?_
  refine ev_callV (as := []) (st := [.int 0, .ref 37]) dX6_init_179 mfX4_read lk_X6_74 (hk 38 _ (by decide) rfl) (by decide) rfl (c_X4_read G (D + 1) b0_T 50 σ hB) rfl rfl (Nat.le_of_ble_eq_true rfl) (am_hR (by omega) (by decide)) ⟨Nat.le_of_ble_eq_true rfl, Nat.le_of_ble_eq_true rfl⟩ ?_
  rintro _ τ (⟨t0, -, -, -⟩ | ⟨t1, rfl, hal, hlen⟩)
  · rw [tx_0] at t0; cases t0
  · obtain ⟨a1, a2, a3, a4, a5, a6, a7, a8⟩ := hal
    rw [hl] at a2 a3 a4 a5 a6 a7 a8
    rw [tx_0n] at a1 a8
    rw [hl]
    have k1 : τ.1 = ly_K.take 65 := by rw [a1, w1]; rfl
    have hk2 : ∀ (a : Nat) (k : Nat × Nat), a < 65 → ly_K[a]? = some k → τ.1[a]? = some k := fun a k ha h => by
      rw [k1, List.getElem?_take, if_pos ha]; exact h
    have hr : ∀ x k, x < 62 → τ.2.2 x k = c6_R x k := fun x k hx => (a3 x k hx).trans (by rw [w2])
    have hi : ∀ x k, x < 62 → x ≠ 39 → x ≠ 40 → ¬ (x = 38 ∧ 2 ≤ k) → τ.2.1 x k = c6_W x k := fun x k h1 h2 h3 h4 => (a2 x k h1 (by omega)).trans (w3 x k h2 (by omega))
    refine ev_aast dX6_init_182 (hk2 37 _ (by decide) rfl) (by decide) (hk2 62 (5, 4) (by decide) rfl) (am_ixn (j := 0) (by decide) (by decide)) ?_
    refine ev_aload_n dX6_init_183 rfl rfl ?_
    refine ev_getR (b := 38) dX6_init_184 fl_X6_34 (hk2 32 _ (by decide) rfl) (show am_up τ.2.2 37 0 (some 62) 32 5 = some 38 from (am_un (by omega)).trans ((hr 32 5 (by decide)).trans rfl)) ?_
    refine ev_callV (as := []) (st := []) dX6_init_187 mfX4_clear lk_X6_78 (hk2 38 _ (by decide) rfl) (by decide) rfl (c_X4_clear G D (am_sR τ 37 0 (some 62)) (hk2 38 _ (by decide) rfl)) rfl rfl (Nat.le_of_ble_eq_true rfl) (am_hR (by omega) (by decide)) ⟨Nat.le_of_ble_eq_true rfl, Nat.le_of_ble_eq_true rfl⟩ ?_
    rintro _ _ ⟨rfl, rfl⟩
    refine ev_aload_n dX6_init_190 rfl rfl ?_
    refine ev_iconst (v := 1) dX6_init_191 (by decide) ?_
    refine ev_putI dX6_init_192 fl_X6_81 rfl rfl (hk2 32 _ (by decide) rfl) ?_
    refine ev_retv dX6_init_195 rfl (Nat.le_of_ble_eq_true rfl) (Nat.le_of_ble_eq_true rfl) ⟨rfl, k1, fun q hq hq1 => ?_, ⟨(show am_up τ.2.2 37 0 (some 62) 37 0 = some 62 from am_us), (show am_up τ.2.2 37 0 (some 62) 62 0 = some 63 from (am_un (by omega)).trans a6), (show am_up τ.2.2 37 0 (some 62) 62 3 = some 64 from (am_un (by omega)).trans a7)⟩, fun x k h1 h2 h3 h4 h5 => ?_, funext fun k => ?_, ?_, am_rs, ?_, ?_, fun k hk3 => ?_⟩
    · have z := ly_R62 q hq hq1
      show am_up τ.2.2 37 0 (some 62) q.1 q.2.1 = _
      exact (am_ua z.2).trans ((hr q.1 q.2.1 z.1).trans (c6_RR q hq hq1))
    · exact am_ru (by omega) (am_ru (σ := am_sR τ 37 0 (some 62)) (by omega) (hi x k h1 h2 h3 h4))
    · refine am_ru (by omega) (am_ru (σ := am_sR τ 37 0 (some 62)) (by omega) ?_)
      exact (a2 39 k (by decide) (by omega)).trans (congrFun e39 k)
    · exact am_ru (by omega) am_rs
    · exact am_ru (by omega) (am_ru (σ := am_sR τ 37 0 (some 62)) (by omega) a4)
    · exact am_ru (by omega) (am_ru (σ := am_sR τ 37 0 (some 62)) (by omega) a5)
    · exact am_ru (by omega) (am_ru (σ := am_sR τ 37 0 (some 62)) (by omega) (a8 k hk3))
set_option maxHeartbeats 1000000 in
set_option maxRecDepth 100000 in
theorem c_X6_init (G : am_G) (D : Nat)  : am_Mt G (D + 46) mX6_init [.ref 32] (ly_K.take 33, fun _ _ => 0, fun _ _ => none) 32 896 c6_Q := by
  refine am_of moX6_init (Nat.le_of_ble_eq_true rfl) ?_
  show am_Ev G mX6_init (am_R (D + 46) 32 896) 32 896 c6_Q 0 [(0, .ref 32)] [] (ly_K.take 33, fun _ _ => 0, fun _ _ => none) 0 0
  refine ev_aload_n dX6_init_0 rfl rfl ?_
  refine ev_obj dX6_init_1 lk_X6_1 (Nat.le_of_ble_eq_true rfl) ⟨Nat.le_add_left _ _, by simp only [am_R]; omega⟩ ?_
  refine ev_aload_n dX6_init_4 rfl rfl ?_
  refine ev_bipush (v := 7) dX6_init_5 (by decide) ?_
  refine ev_newq (c := 11) (L := 33) (N := 7) dX6_init_7 (by decide) cl_X6_9 (by decide) (by decide) (by decide) (cl_len (by decide)) (Nat.le_of_ble_eq_true rfl) (Nat.le_of_ble_eq_true rfl) ?_
  rw [cl_nw (m := 33) (c := 11) (n := 7) rfl (by decide) (fun k => by simp [am_up]) (fun k => by simp [am_up])]
  refine ev_putRF dX6_init_10 fl_X6_11 (fln_X6_11) rfl (by decide) (by decide) (cl_k (by decide) rfl) ?_
  change am_Ev G mX6_init _ _ _ _ _ _ _ (ly_K.take 34, (fun _ _ => 0), (am_up (fun _ _ => none) 32 0 (some 33))) _ _
  refine ev_aload_n dX6_init_13 rfl rfl ?_
  refine ev_bipush (v := 8) dX6_init_14 (by decide) ?_
  refine ev_newa (L := 34) (N := 8) dX6_init_16 (by decide) rfl (by decide) (cl_len (by decide)) (Nat.le_of_ble_eq_true rfl) (Nat.le_of_ble_eq_true rfl) ?_
  rw [cl_nw (m := 34) (c := 10) (n := 8) rfl (by decide) (fun k => by simp [am_up]) (fun k => by simp [am_up])]
  refine ev_putRF dX6_init_18 fl_X6_15 (fln_X6_15) rfl (by decide) (by decide) (cl_k (by decide) rfl) ?_
  change am_Ev G mX6_init _ _ _ _ _ _ _ (ly_K.take 35, (fun _ _ => 0), (am_up (am_up (fun _ _ => none) 32 0 (some 33)) 32 1 (some 34))) _ _
  refine ev_aload_n dX6_init_21 rfl rfl ?_
  refine ev_bipush (v := 8) dX6_init_22 (by decide) ?_
  refine ev_newa (L := 35) (N := 8) dX6_init_24 (by decide) rfl (by decide) (cl_len (by decide)) (Nat.le_of_ble_eq_true rfl) (Nat.le_of_ble_eq_true rfl) ?_
  rw [cl_nw (m := 35) (c := 10) (n := 8) rfl (by decide) (fun k => by simp [am_up]) (fun k => by simp [am_up])]
  refine ev_putRF dX6_init_26 fl_X6_19 (fln_X6_19) rfl (by decide) (by decide) (cl_k (by decide) rfl) ?_
  change am_Ev G mX6_init _ _ _ _ _ _ _ (ly_K.take 36, (fun _ _ => 0), (am_up (am_up (am_up (fun _ _ => none) 32 0 (some 33)) 32 1 (some 34)) 32 2 (some 35))) _ _
  refine ev_aload_n dX6_init_29 rfl rfl ?_
  refine ev_iconst (v := 3) dX6_init_30 (by decide) ?_
  refine ev_newa (L := 36) (N := 3) dX6_init_31 (by decide) rfl (by decide) (cl_len (by decide)) (Nat.le_of_ble_eq_true rfl) (Nat.le_of_ble_eq_true rfl) ?_
  rw [cl_nw (m := 36) (c := 10) (n := 3) rfl (by decide) (fun k => by simp [am_up]) (fun k => by simp [am_up])]
  refine ev_dup dX6_init_33 rfl ?_
  refine ev_iconst (v := 0) dX6_init_34 (by decide) ?_
  refine ev_iconst (v := (-1)) dX6_init_35 (by decide) ?_
  refine ev_iast dX6_init_36 (cl_k (by decide) rfl) (am_ixn (j := 0) (by decide) (by decide)) ?_
  change am_Ev G mX6_init _ _ _ _ _ _ _ (ly_K.take 37, (am_up (fun _ _ => 0) 36 0 (-1)), (am_up (am_up (am_up (fun _ _ => none) 32 0 (some 33)) 32 1 (some 34)) 32 2 (some 35))) _ _
  refine ev_dup dX6_init_37 rfl ?_
  refine ev_iconst (v := 1) dX6_init_38 (by decide) ?_
  refine ev_iconst (v := (-1)) dX6_init_39 (by decide) ?_
  refine ev_iast dX6_init_40 (cl_k (by decide) rfl) (am_ixn (j := 1) (by decide) (by decide)) ?_
  change am_Ev G mX6_init _ _ _ _ _ _ _ (ly_K.take 37, (am_up (am_up (fun _ _ => 0) 36 0 (-1)) 36 1 (-1)), (am_up (am_up (am_up (fun _ _ => none) 32 0 (some 33)) 32 1 (some 34)) 32 2 (some 35))) _ _
  refine ev_dup dX6_init_41 rfl ?_
  refine ev_iconst (v := 2) dX6_init_42 (by decide) ?_
  refine ev_iconst (v := (-1)) dX6_init_43 (by decide) ?_
  refine ev_iast dX6_init_44 (cl_k (by decide) rfl) (am_ixn (j := 2) (by decide) (by decide)) ?_
  change am_Ev G mX6_init _ _ _ _ _ _ _ (ly_K.take 37, (am_up (am_up (am_up (fun _ _ => 0) 36 0 (-1)) 36 1 (-1)) 36 2 (-1)), (am_up (am_up (am_up (fun _ _ => none) 32 0 (some 33)) 32 1 (some 34)) 32 2 (some 35))) _ _
  refine ev_putRF dX6_init_45 fl_X6_22 (fln_X6_22) rfl (by decide) (by decide) (cl_k (by decide) rfl) ?_
  change am_Ev G mX6_init _ _ _ _ _ _ _ (ly_K.take 37, (am_up (am_up (am_up (fun _ _ => 0) 36 0 (-1)) 36 1 (-1)) 36 2 (-1)), (am_up (am_up (am_up (am_up (fun _ _ => none) 32 0 (some 33)) 32 1 (some 34)) 32 2 (some 35)) 32 3 (some 36))) _ _
  refine ev_aload_n dX6_init_48 rfl rfl ?_
  refine ev_bipush (v := 6) dX6_init_49 (by decide) ?_
  refine ev_newq (c := 12) (L := 37) (N := 6) dX6_init_51 (by decide) cl_X6_25 (by decide) (by decide) (by decide) (cl_len (by decide)) (Nat.le_of_ble_eq_true rfl) (Nat.le_of_ble_eq_true rfl) ?_
  rw [cl_nw (m := 37) (c := 12) (n := 6) rfl (by decide) (fun k => by simp [am_up]) (fun k => by simp [am_up])]
  refine ev_putRF dX6_init_54 fl_X6_27 (fln_X6_27) rfl (by decide) (by decide) (cl_k (by decide) rfl) ?_
  change am_Ev G mX6_init _ _ _ _ _ _ _ (ly_K.take 38, (am_up (am_up (am_up (fun _ _ => 0) 36 0 (-1)) 36 1 (-1)) 36 2 (-1)), (am_up (am_up (am_up (am_up (am_up (fun _ _ => none) 32 0 (some 33)) 32 1 (some 34)) 32 2 (some 35)) 32 3 (some 36)) 32 4 (some 37))) _ _
  refine ev_aload_n dX6_init_57 rfl rfl ?_
  refine ev_new (c := 4) (N := 7) (L := 38) dX6_init_58 (by decide) rfl cl_X6_31 am_ib4 am_in4 (cl_len (by decide)) (Nat.le_of_ble_eq_true rfl) (Nat.le_of_ble_eq_true rfl) ?_
  rw [cl_nw (m := 38) (c := 4) (n := 7) rfl (by decide) (fun k => by simp [am_up]) (fun k => by simp [am_up])]
  refine ev_dup dX6_init_61 rfl ?_
  refine ev_callIN (as := []) (st := [.ref 38, .ref 32]) dX6_init_62 mfX4_init lk_X6_33 (c_X4_init G (D + 44) (am_up (am_up (am_up (fun _ _ => 0) 36 0 (-1)) 36 1 (-1)) 36 2 (-1)) (am_up (am_up (am_up (am_up (am_up (fun _ _ => none) 32 0 (some 33)) 32 1 (some 34)) 32 2 (some 35)) 32 3 (some 36)) 32 4 (some 37)) (fun k => by simp [am_up]) (fun k => by simp [am_up]) (fun k => by simp [am_up]) (fun k => by simp [am_up])) rfl rfl (Nat.le_of_ble_eq_true rfl) (am_hR (by omega) (by decide)) ⟨Nat.le_of_ble_eq_true rfl, Nat.le_of_ble_eq_true rfl⟩ ?_
  rintro _ _ ⟨rfl, rfl⟩
  refine ev_putRF dX6_init_65 fl_X6_34 (fln_X6_34) rfl (by decide) (by decide) (cl_k (by decide) rfl) ?_
  change am_Ev G mX6_init _ _ _ _ _ _ _ (ly_K.take 41, (am_up (am_up (am_up (fun _ _ => 0) 36 0 (-1)) 36 1 (-1)) 36 2 (-1)), (am_up (am_up (am_up (am_up (am_up (am_up (am_up (am_up (fun _ _ => none) 32 0 (some 33)) 32 1 (some 34)) 32 2 (some 35)) 32 3 (some 36)) 32 4 (some 37)) 38 0 (some 39)) 38 1 (some 40)) 32 5 (some 38))) _ _
  refine ev_aload_n dX6_init_68 rfl rfl ?_
  refine ev_iconst (v := 4) dX6_init_69 (by decide) ?_
  refine ev_newq (c := 13) (L := 41) (N := 4) dX6_init_70 (by decide) cl_X6_38 (by decide) (by decide) (by decide) (cl_len (by decide)) (Nat.le_of_ble_eq_true rfl) (Nat.le_of_ble_eq_true rfl) ?_
  rw [cl_nw (m := 41) (c := 13) (n := 4) rfl (by decide) (fun k => by simp [am_up]) (fun k => by simp [am_up])]
  refine ev_dup dX6_init_73 rfl ?_
  refine ev_iconst (v := 0) dX6_init_74 (by decide) ?_
  refine ev_new (c := 3) (N := 3) (L := 42) dX6_init_75 (by decide) rfl cl_X6_38 am_ib3 am_in3 (cl_len (by decide)) (Nat.le_of_ble_eq_true rfl) (Nat.le_of_ble_eq_true rfl) ?_
  rw [cl_nw (m := 42) (c := 3) (n := 3) rfl (by decide) (fun k => by simp [am_up]) (fun k => by simp [am_up])]
  refine ev_dup dX6_init_78 rfl ?_
  refine ev_callIN (as := []) (st := [.ref 42, .int 0, .ref 41, .ref 41, .ref 32]) dX6_init_79 mfX3_init lk_X6_40 (c_X3_init G (D + 44) 43 42 (am_up (am_up (am_up (fun _ _ => 0) 36 0 (-1)) 36 1 (-1)) 36 2 (-1)) (am_up (am_up (am_up (am_up (am_up (am_up (am_up (am_up (fun _ _ => none) 32 0 (some 33)) 32 1 (some 34)) 32 2 (some 35)) 32 3 (some 36)) 32 4 (some 37)) 38 0 (some 39)) 38 1 (some 40)) 32 5 (some 38)) (by decide) rfl rfl (by decide) (fun k => by simp [am_up]) (fun k => by simp [am_up])) rfl rfl (Nat.le_of_ble_eq_true rfl) (am_hR (by omega) (by decide)) ⟨Nat.le_of_ble_eq_true rfl, Nat.le_of_ble_eq_true rfl⟩ ?_
  rintro _ _ ⟨rfl, rfl⟩
  refine ev_aast dX6_init_82 (cl_k (by decide) rfl) (by decide) (cl_k (by decide) rfl) (am_ixn (j := 0) (by decide) (by decide)) ?_
  change am_Ev G mX6_init _ _ _ _ _ _ _ (ly_K.take 44, (am_up (am_up (am_up (am_up (fun _ _ => 0) 36 0 (-1)) 36 1 (-1)) 36 2 (-1)) 42 1 (-1)), (am_up (am_up (am_up (am_up (am_up (am_up (am_up (am_up (am_up (am_up (fun _ _ => none) 32 0 (some 33)) 32 1 (some 34)) 32 2 (some 35)) 32 3 (some 36)) 32 4 (some 37)) 38 0 (some 39)) 38 1 (some 40)) 32 5 (some 38)) 42 0 (some 43)) 41 0 (some 42))) _ _
  refine ev_dup dX6_init_83 rfl ?_
  refine ev_iconst (v := 1) dX6_init_84 (by decide) ?_
  refine ev_new (c := 3) (N := 3) (L := 44) dX6_init_85 (by decide) rfl cl_X6_38 am_ib3 am_in3 (cl_len (by decide)) (Nat.le_of_ble_eq_true rfl) (Nat.le_of_ble_eq_true rfl) ?_
  rw [cl_nw (m := 44) (c := 3) (n := 3) rfl (by decide) (fun k => by simp [am_up]) (fun k => by simp [am_up])]
  refine ev_dup dX6_init_88 rfl ?_
  refine ev_callIN (as := []) (st := [.ref 44, .int 1, .ref 41, .ref 41, .ref 32]) dX6_init_89 mfX3_init lk_X6_40 (c_X3_init G (D + 44) 45 44 (am_up (am_up (am_up (am_up (fun _ _ => 0) 36 0 (-1)) 36 1 (-1)) 36 2 (-1)) 42 1 (-1)) (am_up (am_up (am_up (am_up (am_up (am_up (am_up (am_up (am_up (am_up (fun _ _ => none) 32 0 (some 33)) 32 1 (some 34)) 32 2 (some 35)) 32 3 (some 36)) 32 4 (some 37)) 38 0 (some 39)) 38 1 (some 40)) 32 5 (some 38)) 42 0 (some 43)) 41 0 (some 42)) (by decide) rfl rfl (by decide) (fun k => by simp [am_up]) (fun k => by simp [am_up])) rfl rfl (Nat.le_of_ble_eq_true rfl) (am_hR (by omega) (by decide)) ⟨Nat.le_of_ble_eq_true rfl, Nat.le_of_ble_eq_true rfl⟩ ?_
  rintro _ _ ⟨rfl, rfl⟩
  refine ev_aast dX6_init_92 (cl_k (by decide) rfl) (by decide) (cl_k (by decide) rfl) (am_ixn (j := 1) (by decide) (by decide)) ?_
  change am_Ev G mX6_init _ _ _ _ _ _ _ (ly_K.take 46, (am_up (am_up (am_up (am_up (am_up (fun _ _ => 0) 36 0 (-1)) 36 1 (-1)) 36 2 (-1)) 42 1 (-1)) 44 1 (-1)), (am_up (am_up (am_up (am_up (am_up (am_up (am_up (am_up (am_up (am_up (am_up (am_up (fun _ _ => none) 32 0 (some 33)) 32 1 (some 34)) 32 2 (some 35)) 32 3 (some 36)) 32 4 (some 37)) 38 0 (some 39)) 38 1 (some 40)) 32 5 (some 38)) 42 0 (some 43)) 41 0 (some 42)) 44 0 (some 45)) 41 1 (some 44))) _ _
  refine ev_dup dX6_init_93 rfl ?_
  refine ev_iconst (v := 2) dX6_init_94 (by decide) ?_
  refine ev_new (c := 3) (N := 3) (L := 46) dX6_init_95 (by decide) rfl cl_X6_38 am_ib3 am_in3 (cl_len (by decide)) (Nat.le_of_ble_eq_true rfl) (Nat.le_of_ble_eq_true rfl) ?_
  rw [cl_nw (m := 46) (c := 3) (n := 3) rfl (by decide) (fun k => by simp [am_up]) (fun k => by simp [am_up])]
  refine ev_dup dX6_init_98 rfl ?_
  refine ev_callIN (as := []) (st := [.ref 46, .int 2, .ref 41, .ref 41, .ref 32]) dX6_init_99 mfX3_init lk_X6_40 (c_X3_init G (D + 44) 47 46 (am_up (am_up (am_up (am_up (am_up (fun _ _ => 0) 36 0 (-1)) 36 1 (-1)) 36 2 (-1)) 42 1 (-1)) 44 1 (-1)) (am_up (am_up (am_up (am_up (am_up (am_up (am_up (am_up (am_up (am_up (am_up (am_up (fun _ _ => none) 32 0 (some 33)) 32 1 (some 34)) 32 2 (some 35)) 32 3 (some 36)) 32 4 (some 37)) 38 0 (some 39)) 38 1 (some 40)) 32 5 (some 38)) 42 0 (some 43)) 41 0 (some 42)) 44 0 (some 45)) 41 1 (some 44)) (by decide) rfl rfl (by decide) (fun k => by simp [am_up]) (fun k => by simp [am_up])) rfl rfl (Nat.le_of_ble_eq_true rfl) (am_hR (by omega) (by decide)) ⟨Nat.le_of_ble_eq_true rfl, Nat.le_of_ble_eq_true rfl⟩ ?_
  rintro _ _ ⟨rfl, rfl⟩
  refine ev_aast dX6_init_102 (cl_k (by decide) rfl) (by decide) (cl_k (by decide) rfl) (am_ixn (j := 2) (by decide) (by decide)) ?_
  change am_Ev G mX6_init _ _ _ _ _ _ _ (ly_K.take 48, (am_up (am_up (am_up (am_up (am_up (am_up (fun _ _ => 0) 36 0 (-1)) 36 1 (-1)) 36 2 (-1)) 42 1 (-1)) 44 1 (-1)) 46 1 (-1)), (am_up (am_up (am_up (am_up (am_up (am_up (am_up (am_up (am_up (am_up (am_up (am_up (am_up (am_up (fun _ _ => none) 32 0 (some 33)) 32 1 (some 34)) 32 2 (some 35)) 32 3 (some 36)) 32 4 (some 37)) 38 0 (some 39)) 38 1 (some 40)) 32 5 (some 38)) 42 0 (some 43)) 41 0 (some 42)) 44 0 (some 45)) 41 1 (some 44)) 46 0 (some 47)) 41 2 (some 46))) _ _
  refine ev_dup dX6_init_103 rfl ?_
  refine ev_iconst (v := 3) dX6_init_104 (by decide) ?_
  refine ev_new (c := 3) (N := 3) (L := 48) dX6_init_105 (by decide) rfl cl_X6_38 am_ib3 am_in3 (cl_len (by decide)) (Nat.le_of_ble_eq_true rfl) (Nat.le_of_ble_eq_true rfl) ?_
  rw [cl_nw (m := 48) (c := 3) (n := 3) rfl (by decide) (fun k => by simp [am_up]) (fun k => by simp [am_up])]
  refine ev_dup dX6_init_108 rfl ?_
  refine ev_callIN (as := []) (st := [.ref 48, .int 3, .ref 41, .ref 41, .ref 32]) dX6_init_109 mfX3_init lk_X6_40 (c_X3_init G (D + 44) 49 48 (am_up (am_up (am_up (am_up (am_up (am_up (fun _ _ => 0) 36 0 (-1)) 36 1 (-1)) 36 2 (-1)) 42 1 (-1)) 44 1 (-1)) 46 1 (-1)) (am_up (am_up (am_up (am_up (am_up (am_up (am_up (am_up (am_up (am_up (am_up (am_up (am_up (am_up (fun _ _ => none) 32 0 (some 33)) 32 1 (some 34)) 32 2 (some 35)) 32 3 (some 36)) 32 4 (some 37)) 38 0 (some 39)) 38 1 (some 40)) 32 5 (some 38)) 42 0 (some 43)) 41 0 (some 42)) 44 0 (some 45)) 41 1 (some 44)) 46 0 (some 47)) 41 2 (some 46)) (by decide) rfl rfl (by decide) (fun k => by simp [am_up]) (fun k => by simp [am_up])) rfl rfl (Nat.le_of_ble_eq_true rfl) (am_hR (by omega) (by decide)) ⟨Nat.le_of_ble_eq_true rfl, Nat.le_of_ble_eq_true rfl⟩ ?_
  rintro _ _ ⟨rfl, rfl⟩
  refine ev_aast dX6_init_112 (cl_k (by decide) rfl) (by decide) (cl_k (by decide) rfl) (am_ixn (j := 3) (by decide) (by decide)) ?_
  change am_Ev G mX6_init _ _ _ _ _ _ _ (ly_K.take 50, (am_up (am_up (am_up (am_up (am_up (am_up (am_up (fun _ _ => 0) 36 0 (-1)) 36 1 (-1)) 36 2 (-1)) 42 1 (-1)) 44 1 (-1)) 46 1 (-1)) 48 1 (-1)), (am_up (am_up (am_up (am_up (am_up (am_up (am_up (am_up (am_up (am_up (am_up (am_up (am_up (am_up (am_up (am_up (fun _ _ => none) 32 0 (some 33)) 32 1 (some 34)) 32 2 (some 35)) 32 3 (some 36)) 32 4 (some 37)) 38 0 (some 39)) 38 1 (some 40)) 32 5 (some 38)) 42 0 (some 43)) 41 0 (some 42)) 44 0 (some 45)) 41 1 (some 44)) 46 0 (some 47)) 41 2 (some 46)) 48 0 (some 49)) 41 3 (some 48))) _ _
  refine ev_putRF dX6_init_113 fl_X6_41 (fln_X6_41) rfl (by decide) (by decide) (cl_k (by decide) rfl) ?_
  change am_Ev G mX6_init _ _ _ _ _ _ _ (ly_K.take 50, (am_up (am_up (am_up (am_up (am_up (am_up (am_up (fun _ _ => 0) 36 0 (-1)) 36 1 (-1)) 36 2 (-1)) 42 1 (-1)) 44 1 (-1)) 46 1 (-1)) 48 1 (-1)), (am_up (am_up (am_up (am_up (am_up (am_up (am_up (am_up (am_up (am_up (am_up (am_up (am_up (am_up (am_up (am_up (am_up (fun _ _ => none) 32 0 (some 33)) 32 1 (some 34)) 32 2 (some 35)) 32 3 (some 36)) 32 4 (some 37)) 38 0 (some 39)) 38 1 (some 40)) 32 5 (some 38)) 42 0 (some 43)) 41 0 (some 42)) 44 0 (some 45)) 41 1 (some 44)) 46 0 (some 47)) 41 2 (some 46)) 48 0 (some 49)) 41 3 (some 48)) 32 6 (some 41))) _ _
  refine ev_aload_n dX6_init_116 rfl rfl ?_
  refine ev_new (c := 2) (N := 7) (L := 50) dX6_init_117 (by decide) rfl cl_X6_45 am_ib2 am_in2 (cl_len (by decide)) (Nat.le_of_ble_eq_true rfl) (Nat.le_of_ble_eq_true rfl) ?_
  rw [cl_nw (m := 50) (c := 2) (n := 7) rfl (by decide) (fun k => by simp [am_up]) (fun k => by simp [am_up])]
  refine ev_dup dX6_init_120 rfl ?_
  refine ev_callIN (as := []) (st := [.ref 50, .ref 32]) dX6_init_121 mfX2_init lk_X6_47 (c_X2_init G (D + 44) (am_up (am_up (am_up (am_up (am_up (am_up (am_up (fun _ _ => 0) 36 0 (-1)) 36 1 (-1)) 36 2 (-1)) 42 1 (-1)) 44 1 (-1)) 46 1 (-1)) 48 1 (-1)) (am_up (am_up (am_up (am_up (am_up (am_up (am_up (am_up (am_up (am_up (am_up (am_up (am_up (am_up (am_up (am_up (am_up (fun _ _ => none) 32 0 (some 33)) 32 1 (some 34)) 32 2 (some 35)) 32 3 (some 36)) 32 4 (some 37)) 38 0 (some 39)) 38 1 (some 40)) 32 5 (some 38)) 42 0 (some 43)) 41 0 (some 42)) 44 0 (some 45)) 41 1 (some 44)) 46 0 (some 47)) 41 2 (some 46)) 48 0 (some 49)) 41 3 (some 48)) 32 6 (some 41)) (fun k => by simp [am_up]) (fun k => by simp [am_up]) (fun k => by simp [am_up]) (fun k => by simp [am_up]) (fun k => by simp [am_up]) (fun k => by simp [am_up])) rfl rfl (Nat.le_of_ble_eq_true rfl) (am_hR (by omega) (by decide)) ⟨Nat.le_of_ble_eq_true rfl, Nat.le_of_ble_eq_true rfl⟩ ?_
  rintro _ _ ⟨rfl, rfl⟩
  refine ev_putRF dX6_init_124 fl_X6_48 (fln_X6_48) rfl (by decide) (by decide) (cl_k (by decide) rfl) ?_
  change am_Ev G mX6_init _ _ _ _ _ _ _ (ly_K.take 54, (am_up (am_up (am_up (am_up (am_up (am_up (am_up (fun _ _ => 0) 36 0 (-1)) 36 1 (-1)) 36 2 (-1)) 42 1 (-1)) 44 1 (-1)) 46 1 (-1)) 48 1 (-1)), (am_up (am_up (am_up (am_up (am_up (am_up (am_up (am_up (am_up (am_up (am_up (am_up (am_up (am_up (am_up (am_up (am_up (am_up (am_up (am_up (am_up (fun _ _ => none) 32 0 (some 33)) 32 1 (some 34)) 32 2 (some 35)) 32 3 (some 36)) 32 4 (some 37)) 38 0 (some 39)) 38 1 (some 40)) 32 5 (some 38)) 42 0 (some 43)) 41 0 (some 42)) 44 0 (some 45)) 41 1 (some 44)) 46 0 (some 47)) 41 2 (some 46)) 48 0 (some 49)) 41 3 (some 48)) 32 6 (some 41)) 50 0 (some 51)) 50 1 (some 52)) 50 2 (some 53)) 32 7 (some 50))) _ _
  refine ev_aload_n dX6_init_127 rfl rfl ?_
  refine ev_new (c := 0) (N := 5) (L := 54) dX6_init_128 (by decide) rfl cl_X6_52 am_ib0 am_in0 (cl_len (by decide)) (Nat.le_of_ble_eq_true rfl) (Nat.le_of_ble_eq_true rfl) ?_
  rw [cl_nw (m := 54) (c := 0) (n := 5) rfl (by decide) (fun k => by simp [am_up]) (fun k => by simp [am_up])]
  refine ev_dup dX6_init_131 rfl ?_
  refine ev_callIN (as := []) (st := [.ref 54, .ref 32]) dX6_init_132 mfX0_init lk_X6_54 (c_X0_init G (D + 44) (am_up (am_up (am_up (am_up (am_up (am_up (am_up (fun _ _ => 0) 36 0 (-1)) 36 1 (-1)) 36 2 (-1)) 42 1 (-1)) 44 1 (-1)) 46 1 (-1)) 48 1 (-1)) (am_up (am_up (am_up (am_up (am_up (am_up (am_up (am_up (am_up (am_up (am_up (am_up (am_up (am_up (am_up (am_up (am_up (am_up (am_up (am_up (am_up (fun _ _ => none) 32 0 (some 33)) 32 1 (some 34)) 32 2 (some 35)) 32 3 (some 36)) 32 4 (some 37)) 38 0 (some 39)) 38 1 (some 40)) 32 5 (some 38)) 42 0 (some 43)) 41 0 (some 42)) 44 0 (some 45)) 41 1 (some 44)) 46 0 (some 47)) 41 2 (some 46)) 48 0 (some 49)) 41 3 (some 48)) 32 6 (some 41)) 50 0 (some 51)) 50 1 (some 52)) 50 2 (some 53)) 32 7 (some 50)) (fun k => by simp [am_up]) (fun k => by simp [am_up]) (fun k => by simp [am_up]) (fun k => by simp [am_up]) (fun k => by simp [am_up]) (fun k => by simp [am_up]) (fun k => by simp [am_up]) (fun k => by simp [am_up])) rfl rfl (Nat.le_of_ble_eq_true rfl) (am_hR (by omega) (by decide)) ⟨Nat.le_of_ble_eq_true rfl, Nat.le_of_ble_eq_true rfl⟩ ?_
  rintro _ _ ⟨rfl, rfl⟩
  refine ev_putRF dX6_init_135 fl_X6_55 (fln_X6_55) rfl (by decide) (by decide) (cl_k (by decide) rfl) ?_
  change am_Ev G mX6_init _ _ _ _ _ _ _ (ly_K.take 59, (am_up (am_up (am_up (am_up (am_up (am_up (am_up (fun _ _ => 0) 36 0 (-1)) 36 1 (-1)) 36 2 (-1)) 42 1 (-1)) 44 1 (-1)) 46 1 (-1)) 48 1 (-1)), (am_up (am_up (am_up (am_up (am_up (am_up (am_up (am_up (am_up (am_up (am_up (am_up (am_up (am_up (am_up (am_up (am_up (am_up (am_up (am_up (am_up (am_up (am_up (am_up (am_up (am_up (fun _ _ => none) 32 0 (some 33)) 32 1 (some 34)) 32 2 (some 35)) 32 3 (some 36)) 32 4 (some 37)) 38 0 (some 39)) 38 1 (some 40)) 32 5 (some 38)) 42 0 (some 43)) 41 0 (some 42)) 44 0 (some 45)) 41 1 (some 44)) 46 0 (some 47)) 41 2 (some 46)) 48 0 (some 49)) 41 3 (some 48)) 32 6 (some 41)) 50 0 (some 51)) 50 1 (some 52)) 50 2 (some 53)) 32 7 (some 50)) 54 0 (some 55)) 54 1 (some 56)) 54 2 (some 57)) 54 3 (some 58)) 32 8 (some 54))) _ _
  refine ev_aload_n dX6_init_138 rfl rfl ?_
  refine ev_iconst (v := 3) dX6_init_139 (by decide) ?_
  refine ev_newa (L := 59) (N := 3) dX6_init_140 (by decide) rfl (by decide) (cl_len (by decide)) (Nat.le_of_ble_eq_true rfl) (Nat.le_of_ble_eq_true rfl) ?_
  rw [cl_nw (m := 59) (c := 10) (n := 3) rfl (by decide) (fun k => by simp [am_up]) (fun k => by simp [am_up])]
  refine ev_putRF dX6_init_142 fl_X6_59 (fln_X6_59) rfl (by decide) (by decide) (cl_k (by decide) rfl) ?_
  change am_Ev G mX6_init _ _ _ _ _ _ _ (ly_K.take 60, (am_up (am_up (am_up (am_up (am_up (am_up (am_up (fun _ _ => 0) 36 0 (-1)) 36 1 (-1)) 36 2 (-1)) 42 1 (-1)) 44 1 (-1)) 46 1 (-1)) 48 1 (-1)), (am_up (am_up (am_up (am_up (am_up (am_up (am_up (am_up (am_up (am_up (am_up (am_up (am_up (am_up (am_up (am_up (am_up (am_up (am_up (am_up (am_up (am_up (am_up (am_up (am_up (am_up (am_up (fun _ _ => none) 32 0 (some 33)) 32 1 (some 34)) 32 2 (some 35)) 32 3 (some 36)) 32 4 (some 37)) 38 0 (some 39)) 38 1 (some 40)) 32 5 (some 38)) 42 0 (some 43)) 41 0 (some 42)) 44 0 (some 45)) 41 1 (some 44)) 46 0 (some 47)) 41 2 (some 46)) 48 0 (some 49)) 41 3 (some 48)) 32 6 (some 41)) 50 0 (some 51)) 50 1 (some 52)) 50 2 (some 53)) 32 7 (some 50)) 54 0 (some 55)) 54 1 (some 56)) 54 2 (some 57)) 54 3 (some 58)) 32 8 (some 54)) 32 9 (some 59))) _ _
  refine ev_aload_n dX6_init_145 rfl rfl ?_
  refine ev_bipush (v := 28) dX6_init_146 (by decide) ?_
  refine ev_newa (L := 60) (N := 28) dX6_init_148 (by decide) rfl (by decide) (cl_len (by decide)) (Nat.le_of_ble_eq_true rfl) (Nat.le_of_ble_eq_true rfl) ?_
  rw [cl_nw (m := 60) (c := 10) (n := 28) rfl (by decide) (fun k => by simp [am_up]) (fun k => by simp [am_up])]
  refine ev_putRF dX6_init_150 fl_X6_62 (fln_X6_62) rfl (by decide) (by decide) (cl_k (by decide) rfl) ?_
  change am_Ev G mX6_init _ _ _ _ _ _ _ (ly_K.take 61, (am_up (am_up (am_up (am_up (am_up (am_up (am_up (fun _ _ => 0) 36 0 (-1)) 36 1 (-1)) 36 2 (-1)) 42 1 (-1)) 44 1 (-1)) 46 1 (-1)) 48 1 (-1)), (am_up (am_up (am_up (am_up (am_up (am_up (am_up (am_up (am_up (am_up (am_up (am_up (am_up (am_up (am_up (am_up (am_up (am_up (am_up (am_up (am_up (am_up (am_up (am_up (am_up (am_up (am_up (am_up (fun _ _ => none) 32 0 (some 33)) 32 1 (some 34)) 32 2 (some 35)) 32 3 (some 36)) 32 4 (some 37)) 38 0 (some 39)) 38 1 (some 40)) 32 5 (some 38)) 42 0 (some 43)) 41 0 (some 42)) 44 0 (some 45)) 41 1 (some 44)) 46 0 (some 47)) 41 2 (some 46)) 48 0 (some 49)) 41 3 (some 48)) 32 6 (some 41)) 50 0 (some 51)) 50 1 (some 52)) 50 2 (some 53)) 32 7 (some 50)) 54 0 (some 55)) 54 1 (some 56)) 54 2 (some 57)) 54 3 (some 58)) 32 8 (some 54)) 32 9 (some 59)) 32 10 (some 60))) _ _
  refine ev_aload_n dX6_init_153 rfl rfl ?_
  refine ev_bipush (v := 6) dX6_init_154 (by decide) ?_
  refine ev_newa (L := 61) (N := 6) dX6_init_156 (by decide) rfl (by decide) (cl_len (by decide)) (Nat.le_of_ble_eq_true rfl) (Nat.le_of_ble_eq_true rfl) ?_
  rw [cl_nw (m := 61) (c := 10) (n := 6) rfl (by decide) (fun k => by simp [am_up]) (fun k => by simp [am_up])]
  refine ev_putRF dX6_init_158 fl_X6_65 (fln_X6_65) rfl (by decide) (by decide) (cl_k (by decide) rfl) ?_
  change am_Ev G mX6_init _ _ _ _ _ _ _ (ly_K.take 62, (am_up (am_up (am_up (am_up (am_up (am_up (am_up (fun _ _ => 0) 36 0 (-1)) 36 1 (-1)) 36 2 (-1)) 42 1 (-1)) 44 1 (-1)) 46 1 (-1)) 48 1 (-1)), (am_up (am_up (am_up (am_up (am_up (am_up (am_up (am_up (am_up (am_up (am_up (am_up (am_up (am_up (am_up (am_up (am_up (am_up (am_up (am_up (am_up (am_up (am_up (am_up (am_up (am_up (am_up (am_up (am_up (fun _ _ => none) 32 0 (some 33)) 32 1 (some 34)) 32 2 (some 35)) 32 3 (some 36)) 32 4 (some 37)) 38 0 (some 39)) 38 1 (some 40)) 32 5 (some 38)) 42 0 (some 43)) 41 0 (some 42)) 44 0 (some 45)) 41 1 (some 44)) 46 0 (some 47)) 41 2 (some 46)) 48 0 (some 49)) 41 3 (some 48)) 32 6 (some 41)) 50 0 (some 51)) 50 1 (some 52)) 50 2 (some 53)) 32 7 (some 50)) 54 0 (some 55)) 54 1 (some 56)) 54 2 (some 57)) 54 3 (some 58)) 32 8 (some 54)) 32 9 (some 59)) 32 10 (some 60)) 32 11 (some 61))) _ _
  exact c6_tail G D

