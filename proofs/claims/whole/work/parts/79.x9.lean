/-! the class: counts of bits, covers, close questions, good ones, alike, hires -/
theorem s_onlt : ∀ n, n ≤ 7 → ∀ k, k < 2 ^ n - 1 → s_on k < s_on (2 ^ n - 1) := by decide +kernel
theorem s_onle : ∀ n, n ≤ 8 → ∀ k, k < 2 ^ n → s_on k ≤ n := by decide +kernel
theorem h2n7 {n : Nat} (h : n ≤ 7) : 1 ≤ 2 ^ n ∧ 2 ^ n ≤ 128 := ⟨Nat.two_pow_pos n, Nat.pow_le_pow_right (by decide) h⟩
theorem h2n8 {n : Nat} (h : n ≤ 8) : 1 ≤ 2 ^ n ∧ 2 ^ n ≤ 256 := ⟨Nat.two_pow_pos n, Nat.pow_le_pow_right (by decide) h⟩
theorem s_coY {A : am_S} {k F : Nat} (h7 : s_np A ≤ 7) (hk : k < 2 ^ s_np A - 1) (hF : F = (s_co A k).getD (2 ^ s_np A - 1)) (h : s_on k < s_on F ∧ s_cv A k = s_cv A (2 ^ s_np A - 1)) : k = (s_co A (k + 1)).getD (2 ^ s_np A - 1) := by
  cases e : s_co A k with
  | none => rw [s_coN1 e h.2]; rfl
  | some b =>
    rw [e] at hF
    have hF2 : F = b := hF
    subst hF2
    rw [s_coB1 e h]; rfl
theorem s_coX {A : am_S} {k F : Nat} (h7 : s_np A ≤ 7) (hk : k < 2 ^ s_np A - 1) (hF : F = (s_co A k).getD (2 ^ s_np A - 1)) (h : ¬ (s_on k < s_on F ∧ s_cv A k = s_cv A (2 ^ s_np A - 1))) : F = (s_co A (k + 1)).getD (2 ^ s_np A - 1) := by
  cases e : s_co A k with
  | none =>
    rw [e] at hF
    have hF2 : F = 2 ^ s_np A - 1 := hF
    subst hF2
    have := s_onlt _ h7 k hk
    rw [s_coN0 e (fun z => h ⟨this, z⟩)]; rfl
  | some b =>
    rw [e] at hF
    have hF2 : F = b := hF
    subst hF2
    rw [s_coB0 e h]; rfl
theorem s_coE {A : am_S} {F : Nat} (h7 : s_np A ≤ 7) (hF : F = (s_co A (2 ^ s_np A - 1)).getD (2 ^ s_np A - 1)) : F = s_ob A := by
  unfold s_ob
  have hp : 2 ^ s_np A = (2 ^ s_np A - 1) + 1 := by have := Nat.two_pow_pos (s_np A); omega
  cases e : s_co A (2 ^ s_np A - 1) with
  | none =>
    rw [e] at hF
    rw [show s_co A (2 ^ s_np A) = some (2 ^ s_np A - 1) by rw [hp]; exact s_coN1 e rfl]
    exact hF
  | some b =>
    rw [e] at hF
    have := s_onlt _ h7 b (s_colt e)
    rw [show s_co A (2 ^ s_np A) = some b by rw [hp]; exact s_coB0 e (by omega)]
    exact hF
theorem s_clNo {A : am_S} {K : Nat} (h8 : s_nq A ≤ 8) (hK : s_nq A < K) : ∀ n, n ≤ 2 ^ s_nq A → s_cl A K n = none := by
  intro n
  induction n with
  | zero => intro _; rfl
  | succ n ih =>
    intro hn
    have := s_onle _ h8 n (by omega)
    rw [s_clF (by omega)]
    exact ih (by omega)
theorem s_cmpS {k l : Nat} (hk : k < 2 ^ 30) (hl : l < 2 ^ 30) : s_cmp (nI k) (nI l) = s_sn (nI k - nI l) := by
  unfold s_cmp s_sn
  have h1 := pk_sub_toInt (a := k) (b := l) hk hl
  have e1 : nI k < nI l ↔ k < l := nI_ltI (by omega) (by omega)
  have e2 : nI k = nI l ↔ k = l := nI_eq (by omega) (by omega)
  have e3 : (0 : Int32) < nI k - nI l ↔ l < k := by rw [Int32.lt_iff_toInt_lt, h1, Int32.toInt_zero]; omega
  have e4 : nI k - nI l < (0 : Int32) ↔ k < l := by rw [Int32.lt_iff_toInt_lt, h1, Int32.toInt_zero]; omega
  by_cases a : k < l
  · rw [if_pos (e1.mpr a), if_neg (fun z => by have := e3.mp z; omega), if_pos (e4.mpr a)]
  · rw [if_neg (fun z => a (e1.mp z))]
    by_cases b : k = l
    · rw [if_pos (e2.mpr b), if_neg (fun z => by have := e3.mp z; omega), if_neg (fun z => a (e4.mp z))]
    · rw [if_neg (fun z => b (e2.mp z)), if_pos (e3.mpr (by omega))]
theorem s_woD {A : am_S} {f : Nat → Bool} {j : Int32} {q : Nat} (hf : f q = true) : ∀ n, s_wo A (fun y => f y && !decide (y = q)) j n + (if q < n then (if j = nI q then 2 * s_pt A q else s_pt A q) else 0) = s_wo A f j n := by
  intro n
  induction n with
  | zero => rfl
  | succ n ih =>
    show s_wo A _ j n + (if (f n && !decide (n = q)) then _ else 0) + _ = s_wo A f j n + (if f n then _ else 0)
    rw [← ih]
    by_cases e : n = q
    · subst e
      rw [hf, if_neg (by simp), if_pos (Nat.lt_succ_self n), if_neg (Nat.lt_irrefl n), if_pos rfl]
    · have e2 : (q < n + 1) = (q < n) := by
        apply propext
        omega
      have e3 : (f n && !decide (n = q)) = f n := by simp [e]
      rw [e3]
      simp only [e2]
      rw [Int32.add_assoc, Int32.add_assoc]
      congr 1
      exact Int32.add_comm _ _
theorem s_nowD {A : am_S} {T q : Nat} (hq : q < s_nq A) (hr : s_rt A (s_se A T) q = true) : s_wo A (fun y => (mk_m (fun z => (mk_m (s_rt A (s_se A T)) (s_nq A)).testBit z && !(2 ^ q).testBit z) (s_nq A)).testBit y) (A 73 T) (s_nq A) = s_now A T - s_ps2 A T q := by
  have h := s_woD (A := A) (f := s_rt A (s_se A T)) (j := A 73 T) hr (s_nq A)
  rw [if_pos hq] at h
  have e1 : s_wo A (s_rt A (s_se A T)) (A 73 T) (s_nq A) = s_now A T := by
    unfold s_now s_sc
    exact s_wo_cg fun y _ => by simp
  have e2 : s_wo A (fun y => (mk_m (fun z => (mk_m (s_rt A (s_se A T)) (s_nq A)).testBit z && !(2 ^ q).testBit z) (s_nq A)).testBit y) (A 73 T) (s_nq A) = s_wo A (fun y => s_rt A (s_se A T) y && !decide (y = q)) (A 73 T) (s_nq A) := by
    refine s_wo_cg fun y hy => ?_
    rw [mk_tb, mk_tb, Nat.testBit_two_pow]
    simp [hy, eq_comm]
  have e3 : (if A 73 T = nI q then 2 * s_pt A q else s_pt A q) = s_ps2 A T q := by unfold s_ps2; rw [hr, if_pos rfl]
  rw [e2, ← e1, ← h, e3]
  exact (Int32.add_sub_cancel _ _).symm
theorem s_nowD2 {A : am_S} {T q : Nat} (h8 : s_nq A ≤ 8) (hq : q < s_nq A) (hr : s_rt A (s_se A T) q = true) : ∃ k, k ≤ 1584 ∧ s_now A T - s_ps2 A T q = nI k := by
  obtain ⟨k, hk, e⟩ := s_woR A (fun y => (mk_m (fun z => (mk_m (s_rt A (s_se A T)) (s_nq A)).testBit z && !(2 ^ q).testBit z) (s_nq A)).testBit y) (A 73 T) (s_nq A)
  exact ⟨k, by omega, by rw [← s_nowD hq hr, e]⟩
set_option maxHeartbeats 400000 in
set_option maxRecDepth 100000 in
theorem c_bitCount (G : am_G) (D : Nat) (σ : am_M) (m : Nat) (hm : m < 256) (x : Int32) (hx : x = nI m) : am_Mt G D mJ6_bitCount_0f7a4 [.int x] σ 0 0 (am_q (.int (nI (s_on m))) σ) := by
  refine am_of moJ6_bitCount_0f7a4 (Nat.le_of_ble_eq_true rfl) ?_
  show am_Ev G mJ6_bitCount_0f7a4 (am_R D 0 0) 0 0 (am_q (.int (nI (s_on m))) σ) 0 [(0, .int x)] [] σ 0 0
  refine ev_iload_n dJ6_bitCount_0f7a4_0 rfl rfl ?_
  refine ev_iload_n dJ6_bitCount_0f7a4_1 rfl rfl ?_
  refine ev_iconst (v := 1) dJ6_bitCount_0f7a4_2 (by decide) ?_
  refine ev_iushr (v := (x.toUInt32 >>> (Int32.toUInt32 1 &&& Int32.toUInt32 31)).toInt32) dJ6_bitCount_0f7a4_3 rfl ?_
  refine ev_ldcw dJ6_bitCount_0f7a4_4 ct_J6_265 ?_
  refine ev_iand (v := ((x.toUInt32 >>> (Int32.toUInt32 1 &&& Int32.toUInt32 31)).toInt32) &&& 1431655765) dJ6_bitCount_0f7a4_7 rfl ?_
  refine ev_isub (v := x - (((x.toUInt32 >>> (Int32.toUInt32 1 &&& Int32.toUInt32 31)).toInt32) &&& 1431655765)) dJ6_bitCount_0f7a4_8 rfl ?_
  refine ev_istore_n (lv' := [(0, .int (x - (((x.toUInt32 >>> (Int32.toUInt32 1 &&& Int32.toUInt32 31)).toInt32) &&& 1431655765)))]) dJ6_bitCount_0f7a4_9 rfl (by decide) rfl ?_
  refine ev_iload_n dJ6_bitCount_0f7a4_10 rfl rfl ?_
  refine ev_ldcw dJ6_bitCount_0f7a4_11 ct_J6_266 ?_
  refine ev_iand (v := (x - (((x.toUInt32 >>> (Int32.toUInt32 1 &&& Int32.toUInt32 31)).toInt32) &&& 1431655765)) &&& 858993459) dJ6_bitCount_0f7a4_14 rfl ?_
  refine ev_iload_n dJ6_bitCount_0f7a4_15 rfl rfl ?_
  refine ev_iconst (v := 2) dJ6_bitCount_0f7a4_16 (by decide) ?_
  refine ev_iushr (v := ((x - (((x.toUInt32 >>> (Int32.toUInt32 1 &&& Int32.toUInt32 31)).toInt32) &&& 1431655765)).toUInt32 >>> (Int32.toUInt32 2 &&& Int32.toUInt32 31)).toInt32) dJ6_bitCount_0f7a4_17 rfl ?_
  refine ev_ldcw dJ6_bitCount_0f7a4_18 ct_J6_266 ?_
  refine ev_iand (v := (((x - (((x.toUInt32 >>> (Int32.toUInt32 1 &&& Int32.toUInt32 31)).toInt32) &&& 1431655765)).toUInt32 >>> (Int32.toUInt32 2 &&& Int32.toUInt32 31)).toInt32) &&& 858993459) dJ6_bitCount_0f7a4_21 rfl ?_
  refine ev_iadd (v := ((x - (((x.toUInt32 >>> (Int32.toUInt32 1 &&& Int32.toUInt32 31)).toInt32) &&& 1431655765)) &&& 858993459) + ((((x - (((x.toUInt32 >>> (Int32.toUInt32 1 &&& Int32.toUInt32 31)).toInt32) &&& 1431655765)).toUInt32 >>> (Int32.toUInt32 2 &&& Int32.toUInt32 31)).toInt32) &&& 858993459)) dJ6_bitCount_0f7a4_22 rfl ?_
  refine ev_istore_n (lv' := [(0, .int (((x - (((x.toUInt32 >>> (Int32.toUInt32 1 &&& Int32.toUInt32 31)).toInt32) &&& 1431655765)) &&& 858993459) + ((((x - (((x.toUInt32 >>> (Int32.toUInt32 1 &&& Int32.toUInt32 31)).toInt32) &&& 1431655765)).toUInt32 >>> (Int32.toUInt32 2 &&& Int32.toUInt32 31)).toInt32) &&& 858993459)))]) dJ6_bitCount_0f7a4_23 rfl (by decide) rfl ?_
  refine ev_iload_n dJ6_bitCount_0f7a4_24 rfl rfl ?_
  refine ev_iload_n dJ6_bitCount_0f7a4_25 rfl rfl ?_
  refine ev_iconst (v := 4) dJ6_bitCount_0f7a4_26 (by decide) ?_
  refine ev_iushr (v := ((((x - (((x.toUInt32 >>> (Int32.toUInt32 1 &&& Int32.toUInt32 31)).toInt32) &&& 1431655765)) &&& 858993459) + ((((x - (((x.toUInt32 >>> (Int32.toUInt32 1 &&& Int32.toUInt32 31)).toInt32) &&& 1431655765)).toUInt32 >>> (Int32.toUInt32 2 &&& Int32.toUInt32 31)).toInt32) &&& 858993459)).toUInt32 >>> (Int32.toUInt32 4 &&& Int32.toUInt32 31)).toInt32) dJ6_bitCount_0f7a4_27 rfl ?_
  refine ev_iadd (v := (((x - (((x.toUInt32 >>> (Int32.toUInt32 1 &&& Int32.toUInt32 31)).toInt32) &&& 1431655765)) &&& 858993459) + ((((x - (((x.toUInt32 >>> (Int32.toUInt32 1 &&& Int32.toUInt32 31)).toInt32) &&& 1431655765)).toUInt32 >>> (Int32.toUInt32 2 &&& Int32.toUInt32 31)).toInt32) &&& 858993459)) + (((((x - (((x.toUInt32 >>> (Int32.toUInt32 1 &&& Int32.toUInt32 31)).toInt32) &&& 1431655765)) &&& 858993459) + ((((x - (((x.toUInt32 >>> (Int32.toUInt32 1 &&& Int32.toUInt32 31)).toInt32) &&& 1431655765)).toUInt32 >>> (Int32.toUInt32 2 &&& Int32.toUInt32 31)).toInt32) &&& 858993459)).toUInt32 >>> (Int32.toUInt32 4 &&& Int32.toUInt32 31)).toInt32)) dJ6_bitCount_0f7a4_28 rfl ?_
  refine ev_ldcw dJ6_bitCount_0f7a4_29 ct_J6_267 ?_
  refine ev_iand (v := ((((x - (((x.toUInt32 >>> (Int32.toUInt32 1 &&& Int32.toUInt32 31)).toInt32) &&& 1431655765)) &&& 858993459) + ((((x - (((x.toUInt32 >>> (Int32.toUInt32 1 &&& Int32.toUInt32 31)).toInt32) &&& 1431655765)).toUInt32 >>> (Int32.toUInt32 2 &&& Int32.toUInt32 31)).toInt32) &&& 858993459)) + (((((x - (((x.toUInt32 >>> (Int32.toUInt32 1 &&& Int32.toUInt32 31)).toInt32) &&& 1431655765)) &&& 858993459) + ((((x - (((x.toUInt32 >>> (Int32.toUInt32 1 &&& Int32.toUInt32 31)).toInt32) &&& 1431655765)).toUInt32 >>> (Int32.toUInt32 2 &&& Int32.toUInt32 31)).toInt32) &&& 858993459)).toUInt32 >>> (Int32.toUInt32 4 &&& Int32.toUInt32 31)).toInt32)) &&& 252645135) dJ6_bitCount_0f7a4_32 rfl ?_
  refine ev_istore_n (lv' := [(0, .int (((((x - (((x.toUInt32 >>> (Int32.toUInt32 1 &&& Int32.toUInt32 31)).toInt32) &&& 1431655765)) &&& 858993459) + ((((x - (((x.toUInt32 >>> (Int32.toUInt32 1 &&& Int32.toUInt32 31)).toInt32) &&& 1431655765)).toUInt32 >>> (Int32.toUInt32 2 &&& Int32.toUInt32 31)).toInt32) &&& 858993459)) + (((((x - (((x.toUInt32 >>> (Int32.toUInt32 1 &&& Int32.toUInt32 31)).toInt32) &&& 1431655765)) &&& 858993459) + ((((x - (((x.toUInt32 >>> (Int32.toUInt32 1 &&& Int32.toUInt32 31)).toInt32) &&& 1431655765)).toUInt32 >>> (Int32.toUInt32 2 &&& Int32.toUInt32 31)).toInt32) &&& 858993459)).toUInt32 >>> (Int32.toUInt32 4 &&& Int32.toUInt32 31)).toInt32)) &&& 252645135))]) dJ6_bitCount_0f7a4_33 rfl (by decide) rfl ?_
  refine ev_iload_n dJ6_bitCount_0f7a4_34 rfl rfl ?_
  refine ev_iload_n dJ6_bitCount_0f7a4_35 rfl rfl ?_
  refine ev_bipush (v := 8) dJ6_bitCount_0f7a4_36 (by decide) ?_
  refine ev_iushr (v := ((((((x - (((x.toUInt32 >>> (Int32.toUInt32 1 &&& Int32.toUInt32 31)).toInt32) &&& 1431655765)) &&& 858993459) + ((((x - (((x.toUInt32 >>> (Int32.toUInt32 1 &&& Int32.toUInt32 31)).toInt32) &&& 1431655765)).toUInt32 >>> (Int32.toUInt32 2 &&& Int32.toUInt32 31)).toInt32) &&& 858993459)) + (((((x - (((x.toUInt32 >>> (Int32.toUInt32 1 &&& Int32.toUInt32 31)).toInt32) &&& 1431655765)) &&& 858993459) + ((((x - (((x.toUInt32 >>> (Int32.toUInt32 1 &&& Int32.toUInt32 31)).toInt32) &&& 1431655765)).toUInt32 >>> (Int32.toUInt32 2 &&& Int32.toUInt32 31)).toInt32) &&& 858993459)).toUInt32 >>> (Int32.toUInt32 4 &&& Int32.toUInt32 31)).toInt32)) &&& 252645135).toUInt32 >>> (Int32.toUInt32 8 &&& Int32.toUInt32 31)).toInt32) dJ6_bitCount_0f7a4_38 rfl ?_
  refine ev_iadd (v := (((((x - (((x.toUInt32 >>> (Int32.toUInt32 1 &&& Int32.toUInt32 31)).toInt32) &&& 1431655765)) &&& 858993459) + ((((x - (((x.toUInt32 >>> (Int32.toUInt32 1 &&& Int32.toUInt32 31)).toInt32) &&& 1431655765)).toUInt32 >>> (Int32.toUInt32 2 &&& Int32.toUInt32 31)).toInt32) &&& 858993459)) + (((((x - (((x.toUInt32 >>> (Int32.toUInt32 1 &&& Int32.toUInt32 31)).toInt32) &&& 1431655765)) &&& 858993459) + ((((x - (((x.toUInt32 >>> (Int32.toUInt32 1 &&& Int32.toUInt32 31)).toInt32) &&& 1431655765)).toUInt32 >>> (Int32.toUInt32 2 &&& Int32.toUInt32 31)).toInt32) &&& 858993459)).toUInt32 >>> (Int32.toUInt32 4 &&& Int32.toUInt32 31)).toInt32)) &&& 252645135) + (((((((x - (((x.toUInt32 >>> (Int32.toUInt32 1 &&& Int32.toUInt32 31)).toInt32) &&& 1431655765)) &&& 858993459) + ((((x - (((x.toUInt32 >>> (Int32.toUInt32 1 &&& Int32.toUInt32 31)).toInt32) &&& 1431655765)).toUInt32 >>> (Int32.toUInt32 2 &&& Int32.toUInt32 31)).toInt32) &&& 858993459)) + (((((x - (((x.toUInt32 >>> (Int32.toUInt32 1 &&& Int32.toUInt32 31)).toInt32) &&& 1431655765)) &&& 858993459) + ((((x - (((x.toUInt32 >>> (Int32.toUInt32 1 &&& Int32.toUInt32 31)).toInt32) &&& 1431655765)).toUInt32 >>> (Int32.toUInt32 2 &&& Int32.toUInt32 31)).toInt32) &&& 858993459)).toUInt32 >>> (Int32.toUInt32 4 &&& Int32.toUInt32 31)).toInt32)) &&& 252645135).toUInt32 >>> (Int32.toUInt32 8 &&& Int32.toUInt32 31)).toInt32)) dJ6_bitCount_0f7a4_39 rfl ?_
  refine ev_istore_n (lv' := [(0, .int ((((((x - (((x.toUInt32 >>> (Int32.toUInt32 1 &&& Int32.toUInt32 31)).toInt32) &&& 1431655765)) &&& 858993459) + ((((x - (((x.toUInt32 >>> (Int32.toUInt32 1 &&& Int32.toUInt32 31)).toInt32) &&& 1431655765)).toUInt32 >>> (Int32.toUInt32 2 &&& Int32.toUInt32 31)).toInt32) &&& 858993459)) + (((((x - (((x.toUInt32 >>> (Int32.toUInt32 1 &&& Int32.toUInt32 31)).toInt32) &&& 1431655765)) &&& 858993459) + ((((x - (((x.toUInt32 >>> (Int32.toUInt32 1 &&& Int32.toUInt32 31)).toInt32) &&& 1431655765)).toUInt32 >>> (Int32.toUInt32 2 &&& Int32.toUInt32 31)).toInt32) &&& 858993459)).toUInt32 >>> (Int32.toUInt32 4 &&& Int32.toUInt32 31)).toInt32)) &&& 252645135) + (((((((x - (((x.toUInt32 >>> (Int32.toUInt32 1 &&& Int32.toUInt32 31)).toInt32) &&& 1431655765)) &&& 858993459) + ((((x - (((x.toUInt32 >>> (Int32.toUInt32 1 &&& Int32.toUInt32 31)).toInt32) &&& 1431655765)).toUInt32 >>> (Int32.toUInt32 2 &&& Int32.toUInt32 31)).toInt32) &&& 858993459)) + (((((x - (((x.toUInt32 >>> (Int32.toUInt32 1 &&& Int32.toUInt32 31)).toInt32) &&& 1431655765)) &&& 858993459) + ((((x - (((x.toUInt32 >>> (Int32.toUInt32 1 &&& Int32.toUInt32 31)).toInt32) &&& 1431655765)).toUInt32 >>> (Int32.toUInt32 2 &&& Int32.toUInt32 31)).toInt32) &&& 858993459)).toUInt32 >>> (Int32.toUInt32 4 &&& Int32.toUInt32 31)).toInt32)) &&& 252645135).toUInt32 >>> (Int32.toUInt32 8 &&& Int32.toUInt32 31)).toInt32)))]) dJ6_bitCount_0f7a4_40 rfl (by decide) rfl ?_
  refine ev_iload_n dJ6_bitCount_0f7a4_41 rfl rfl ?_
  refine ev_iload_n dJ6_bitCount_0f7a4_42 rfl rfl ?_
  refine ev_bipush (v := 16) dJ6_bitCount_0f7a4_43 (by decide) ?_
  refine ev_iushr (v := (((((((x - (((x.toUInt32 >>> (Int32.toUInt32 1 &&& Int32.toUInt32 31)).toInt32) &&& 1431655765)) &&& 858993459) + ((((x - (((x.toUInt32 >>> (Int32.toUInt32 1 &&& Int32.toUInt32 31)).toInt32) &&& 1431655765)).toUInt32 >>> (Int32.toUInt32 2 &&& Int32.toUInt32 31)).toInt32) &&& 858993459)) + (((((x - (((x.toUInt32 >>> (Int32.toUInt32 1 &&& Int32.toUInt32 31)).toInt32) &&& 1431655765)) &&& 858993459) + ((((x - (((x.toUInt32 >>> (Int32.toUInt32 1 &&& Int32.toUInt32 31)).toInt32) &&& 1431655765)).toUInt32 >>> (Int32.toUInt32 2 &&& Int32.toUInt32 31)).toInt32) &&& 858993459)).toUInt32 >>> (Int32.toUInt32 4 &&& Int32.toUInt32 31)).toInt32)) &&& 252645135) + (((((((x - (((x.toUInt32 >>> (Int32.toUInt32 1 &&& Int32.toUInt32 31)).toInt32) &&& 1431655765)) &&& 858993459) + ((((x - (((x.toUInt32 >>> (Int32.toUInt32 1 &&& Int32.toUInt32 31)).toInt32) &&& 1431655765)).toUInt32 >>> (Int32.toUInt32 2 &&& Int32.toUInt32 31)).toInt32) &&& 858993459)) + (((((x - (((x.toUInt32 >>> (Int32.toUInt32 1 &&& Int32.toUInt32 31)).toInt32) &&& 1431655765)) &&& 858993459) + ((((x - (((x.toUInt32 >>> (Int32.toUInt32 1 &&& Int32.toUInt32 31)).toInt32) &&& 1431655765)).toUInt32 >>> (Int32.toUInt32 2 &&& Int32.toUInt32 31)).toInt32) &&& 858993459)).toUInt32 >>> (Int32.toUInt32 4 &&& Int32.toUInt32 31)).toInt32)) &&& 252645135).toUInt32 >>> (Int32.toUInt32 8 &&& Int32.toUInt32 31)).toInt32)).toUInt32 >>> (Int32.toUInt32 16 &&& Int32.toUInt32 31)).toInt32) dJ6_bitCount_0f7a4_45 rfl ?_
  refine ev_iadd (v := ((((((x - (((x.toUInt32 >>> (Int32.toUInt32 1 &&& Int32.toUInt32 31)).toInt32) &&& 1431655765)) &&& 858993459) + ((((x - (((x.toUInt32 >>> (Int32.toUInt32 1 &&& Int32.toUInt32 31)).toInt32) &&& 1431655765)).toUInt32 >>> (Int32.toUInt32 2 &&& Int32.toUInt32 31)).toInt32) &&& 858993459)) + (((((x - (((x.toUInt32 >>> (Int32.toUInt32 1 &&& Int32.toUInt32 31)).toInt32) &&& 1431655765)) &&& 858993459) + ((((x - (((x.toUInt32 >>> (Int32.toUInt32 1 &&& Int32.toUInt32 31)).toInt32) &&& 1431655765)).toUInt32 >>> (Int32.toUInt32 2 &&& Int32.toUInt32 31)).toInt32) &&& 858993459)).toUInt32 >>> (Int32.toUInt32 4 &&& Int32.toUInt32 31)).toInt32)) &&& 252645135) + (((((((x - (((x.toUInt32 >>> (Int32.toUInt32 1 &&& Int32.toUInt32 31)).toInt32) &&& 1431655765)) &&& 858993459) + ((((x - (((x.toUInt32 >>> (Int32.toUInt32 1 &&& Int32.toUInt32 31)).toInt32) &&& 1431655765)).toUInt32 >>> (Int32.toUInt32 2 &&& Int32.toUInt32 31)).toInt32) &&& 858993459)) + (((((x - (((x.toUInt32 >>> (Int32.toUInt32 1 &&& Int32.toUInt32 31)).toInt32) &&& 1431655765)) &&& 858993459) + ((((x - (((x.toUInt32 >>> (Int32.toUInt32 1 &&& Int32.toUInt32 31)).toInt32) &&& 1431655765)).toUInt32 >>> (Int32.toUInt32 2 &&& Int32.toUInt32 31)).toInt32) &&& 858993459)).toUInt32 >>> (Int32.toUInt32 4 &&& Int32.toUInt32 31)).toInt32)) &&& 252645135).toUInt32 >>> (Int32.toUInt32 8 &&& Int32.toUInt32 31)).toInt32)) + ((((((((x - (((x.toUInt32 >>> (Int32.toUInt32 1 &&& Int32.toUInt32 31)).toInt32) &&& 1431655765)) &&& 858993459) + ((((x - (((x.toUInt32 >>> (Int32.toUInt32 1 &&& Int32.toUInt32 31)).toInt32) &&& 1431655765)).toUInt32 >>> (Int32.toUInt32 2 &&& Int32.toUInt32 31)).toInt32) &&& 858993459)) + (((((x - (((x.toUInt32 >>> (Int32.toUInt32 1 &&& Int32.toUInt32 31)).toInt32) &&& 1431655765)) &&& 858993459) + ((((x - (((x.toUInt32 >>> (Int32.toUInt32 1 &&& Int32.toUInt32 31)).toInt32) &&& 1431655765)).toUInt32 >>> (Int32.toUInt32 2 &&& Int32.toUInt32 31)).toInt32) &&& 858993459)).toUInt32 >>> (Int32.toUInt32 4 &&& Int32.toUInt32 31)).toInt32)) &&& 252645135) + (((((((x - (((x.toUInt32 >>> (Int32.toUInt32 1 &&& Int32.toUInt32 31)).toInt32) &&& 1431655765)) &&& 858993459) + ((((x - (((x.toUInt32 >>> (Int32.toUInt32 1 &&& Int32.toUInt32 31)).toInt32) &&& 1431655765)).toUInt32 >>> (Int32.toUInt32 2 &&& Int32.toUInt32 31)).toInt32) &&& 858993459)) + (((((x - (((x.toUInt32 >>> (Int32.toUInt32 1 &&& Int32.toUInt32 31)).toInt32) &&& 1431655765)) &&& 858993459) + ((((x - (((x.toUInt32 >>> (Int32.toUInt32 1 &&& Int32.toUInt32 31)).toInt32) &&& 1431655765)).toUInt32 >>> (Int32.toUInt32 2 &&& Int32.toUInt32 31)).toInt32) &&& 858993459)).toUInt32 >>> (Int32.toUInt32 4 &&& Int32.toUInt32 31)).toInt32)) &&& 252645135).toUInt32 >>> (Int32.toUInt32 8 &&& Int32.toUInt32 31)).toInt32)).toUInt32 >>> (Int32.toUInt32 16 &&& Int32.toUInt32 31)).toInt32)) dJ6_bitCount_0f7a4_46 rfl ?_
  refine ev_istore_n (lv' := [(0, .int (((((((x - (((x.toUInt32 >>> (Int32.toUInt32 1 &&& Int32.toUInt32 31)).toInt32) &&& 1431655765)) &&& 858993459) + ((((x - (((x.toUInt32 >>> (Int32.toUInt32 1 &&& Int32.toUInt32 31)).toInt32) &&& 1431655765)).toUInt32 >>> (Int32.toUInt32 2 &&& Int32.toUInt32 31)).toInt32) &&& 858993459)) + (((((x - (((x.toUInt32 >>> (Int32.toUInt32 1 &&& Int32.toUInt32 31)).toInt32) &&& 1431655765)) &&& 858993459) + ((((x - (((x.toUInt32 >>> (Int32.toUInt32 1 &&& Int32.toUInt32 31)).toInt32) &&& 1431655765)).toUInt32 >>> (Int32.toUInt32 2 &&& Int32.toUInt32 31)).toInt32) &&& 858993459)).toUInt32 >>> (Int32.toUInt32 4 &&& Int32.toUInt32 31)).toInt32)) &&& 252645135) + (((((((x - (((x.toUInt32 >>> (Int32.toUInt32 1 &&& Int32.toUInt32 31)).toInt32) &&& 1431655765)) &&& 858993459) + ((((x - (((x.toUInt32 >>> (Int32.toUInt32 1 &&& Int32.toUInt32 31)).toInt32) &&& 1431655765)).toUInt32 >>> (Int32.toUInt32 2 &&& Int32.toUInt32 31)).toInt32) &&& 858993459)) + (((((x - (((x.toUInt32 >>> (Int32.toUInt32 1 &&& Int32.toUInt32 31)).toInt32) &&& 1431655765)) &&& 858993459) + ((((x - (((x.toUInt32 >>> (Int32.toUInt32 1 &&& Int32.toUInt32 31)).toInt32) &&& 1431655765)).toUInt32 >>> (Int32.toUInt32 2 &&& Int32.toUInt32 31)).toInt32) &&& 858993459)).toUInt32 >>> (Int32.toUInt32 4 &&& Int32.toUInt32 31)).toInt32)) &&& 252645135).toUInt32 >>> (Int32.toUInt32 8 &&& Int32.toUInt32 31)).toInt32)) + ((((((((x - (((x.toUInt32 >>> (Int32.toUInt32 1 &&& Int32.toUInt32 31)).toInt32) &&& 1431655765)) &&& 858993459) + ((((x - (((x.toUInt32 >>> (Int32.toUInt32 1 &&& Int32.toUInt32 31)).toInt32) &&& 1431655765)).toUInt32 >>> (Int32.toUInt32 2 &&& Int32.toUInt32 31)).toInt32) &&& 858993459)) + (((((x - (((x.toUInt32 >>> (Int32.toUInt32 1 &&& Int32.toUInt32 31)).toInt32) &&& 1431655765)) &&& 858993459) + ((((x - (((x.toUInt32 >>> (Int32.toUInt32 1 &&& Int32.toUInt32 31)).toInt32) &&& 1431655765)).toUInt32 >>> (Int32.toUInt32 2 &&& Int32.toUInt32 31)).toInt32) &&& 858993459)).toUInt32 >>> (Int32.toUInt32 4 &&& Int32.toUInt32 31)).toInt32)) &&& 252645135) + (((((((x - (((x.toUInt32 >>> (Int32.toUInt32 1 &&& Int32.toUInt32 31)).toInt32) &&& 1431655765)) &&& 858993459) + ((((x - (((x.toUInt32 >>> (Int32.toUInt32 1 &&& Int32.toUInt32 31)).toInt32) &&& 1431655765)).toUInt32 >>> (Int32.toUInt32 2 &&& Int32.toUInt32 31)).toInt32) &&& 858993459)) + (((((x - (((x.toUInt32 >>> (Int32.toUInt32 1 &&& Int32.toUInt32 31)).toInt32) &&& 1431655765)) &&& 858993459) + ((((x - (((x.toUInt32 >>> (Int32.toUInt32 1 &&& Int32.toUInt32 31)).toInt32) &&& 1431655765)).toUInt32 >>> (Int32.toUInt32 2 &&& Int32.toUInt32 31)).toInt32) &&& 858993459)).toUInt32 >>> (Int32.toUInt32 4 &&& Int32.toUInt32 31)).toInt32)) &&& 252645135).toUInt32 >>> (Int32.toUInt32 8 &&& Int32.toUInt32 31)).toInt32)).toUInt32 >>> (Int32.toUInt32 16 &&& Int32.toUInt32 31)).toInt32)))]) dJ6_bitCount_0f7a4_47 rfl (by decide) rfl ?_
  refine ev_iload_n dJ6_bitCount_0f7a4_48 rfl rfl ?_
  refine ev_bipush (v := 63) dJ6_bitCount_0f7a4_49 (by decide) ?_
  refine ev_iand (v := (((((((x - (((x.toUInt32 >>> (Int32.toUInt32 1 &&& Int32.toUInt32 31)).toInt32) &&& 1431655765)) &&& 858993459) + ((((x - (((x.toUInt32 >>> (Int32.toUInt32 1 &&& Int32.toUInt32 31)).toInt32) &&& 1431655765)).toUInt32 >>> (Int32.toUInt32 2 &&& Int32.toUInt32 31)).toInt32) &&& 858993459)) + (((((x - (((x.toUInt32 >>> (Int32.toUInt32 1 &&& Int32.toUInt32 31)).toInt32) &&& 1431655765)) &&& 858993459) + ((((x - (((x.toUInt32 >>> (Int32.toUInt32 1 &&& Int32.toUInt32 31)).toInt32) &&& 1431655765)).toUInt32 >>> (Int32.toUInt32 2 &&& Int32.toUInt32 31)).toInt32) &&& 858993459)).toUInt32 >>> (Int32.toUInt32 4 &&& Int32.toUInt32 31)).toInt32)) &&& 252645135) + (((((((x - (((x.toUInt32 >>> (Int32.toUInt32 1 &&& Int32.toUInt32 31)).toInt32) &&& 1431655765)) &&& 858993459) + ((((x - (((x.toUInt32 >>> (Int32.toUInt32 1 &&& Int32.toUInt32 31)).toInt32) &&& 1431655765)).toUInt32 >>> (Int32.toUInt32 2 &&& Int32.toUInt32 31)).toInt32) &&& 858993459)) + (((((x - (((x.toUInt32 >>> (Int32.toUInt32 1 &&& Int32.toUInt32 31)).toInt32) &&& 1431655765)) &&& 858993459) + ((((x - (((x.toUInt32 >>> (Int32.toUInt32 1 &&& Int32.toUInt32 31)).toInt32) &&& 1431655765)).toUInt32 >>> (Int32.toUInt32 2 &&& Int32.toUInt32 31)).toInt32) &&& 858993459)).toUInt32 >>> (Int32.toUInt32 4 &&& Int32.toUInt32 31)).toInt32)) &&& 252645135).toUInt32 >>> (Int32.toUInt32 8 &&& Int32.toUInt32 31)).toInt32)) + ((((((((x - (((x.toUInt32 >>> (Int32.toUInt32 1 &&& Int32.toUInt32 31)).toInt32) &&& 1431655765)) &&& 858993459) + ((((x - (((x.toUInt32 >>> (Int32.toUInt32 1 &&& Int32.toUInt32 31)).toInt32) &&& 1431655765)).toUInt32 >>> (Int32.toUInt32 2 &&& Int32.toUInt32 31)).toInt32) &&& 858993459)) + (((((x - (((x.toUInt32 >>> (Int32.toUInt32 1 &&& Int32.toUInt32 31)).toInt32) &&& 1431655765)) &&& 858993459) + ((((x - (((x.toUInt32 >>> (Int32.toUInt32 1 &&& Int32.toUInt32 31)).toInt32) &&& 1431655765)).toUInt32 >>> (Int32.toUInt32 2 &&& Int32.toUInt32 31)).toInt32) &&& 858993459)).toUInt32 >>> (Int32.toUInt32 4 &&& Int32.toUInt32 31)).toInt32)) &&& 252645135) + (((((((x - (((x.toUInt32 >>> (Int32.toUInt32 1 &&& Int32.toUInt32 31)).toInt32) &&& 1431655765)) &&& 858993459) + ((((x - (((x.toUInt32 >>> (Int32.toUInt32 1 &&& Int32.toUInt32 31)).toInt32) &&& 1431655765)).toUInt32 >>> (Int32.toUInt32 2 &&& Int32.toUInt32 31)).toInt32) &&& 858993459)) + (((((x - (((x.toUInt32 >>> (Int32.toUInt32 1 &&& Int32.toUInt32 31)).toInt32) &&& 1431655765)) &&& 858993459) + ((((x - (((x.toUInt32 >>> (Int32.toUInt32 1 &&& Int32.toUInt32 31)).toInt32) &&& 1431655765)).toUInt32 >>> (Int32.toUInt32 2 &&& Int32.toUInt32 31)).toInt32) &&& 858993459)).toUInt32 >>> (Int32.toUInt32 4 &&& Int32.toUInt32 31)).toInt32)) &&& 252645135).toUInt32 >>> (Int32.toUInt32 8 &&& Int32.toUInt32 31)).toInt32)).toUInt32 >>> (Int32.toUInt32 16 &&& Int32.toUInt32 31)).toInt32)) &&& 63) dJ6_bitCount_0f7a4_51 rfl ?_
  refine ev_reti dJ6_bitCount_0f7a4_52 rfl (Nat.zero_le _) (Nat.zero_le _) ?_
  have e : ∀ m, m < 256 → (fun x : Int32 => (((((((x - (((x.toUInt32 >>> (Int32.toUInt32 1 &&& Int32.toUInt32 31)).toInt32) &&& 1431655765)) &&& 858993459) + ((((x - (((x.toUInt32 >>> (Int32.toUInt32 1 &&& Int32.toUInt32 31)).toInt32) &&& 1431655765)).toUInt32 >>> (Int32.toUInt32 2 &&& Int32.toUInt32 31)).toInt32) &&& 858993459)) + (((((x - (((x.toUInt32 >>> (Int32.toUInt32 1 &&& Int32.toUInt32 31)).toInt32) &&& 1431655765)) &&& 858993459) + ((((x - (((x.toUInt32 >>> (Int32.toUInt32 1 &&& Int32.toUInt32 31)).toInt32) &&& 1431655765)).toUInt32 >>> (Int32.toUInt32 2 &&& Int32.toUInt32 31)).toInt32) &&& 858993459)).toUInt32 >>> (Int32.toUInt32 4 &&& Int32.toUInt32 31)).toInt32)) &&& 252645135) + (((((((x - (((x.toUInt32 >>> (Int32.toUInt32 1 &&& Int32.toUInt32 31)).toInt32) &&& 1431655765)) &&& 858993459) + ((((x - (((x.toUInt32 >>> (Int32.toUInt32 1 &&& Int32.toUInt32 31)).toInt32) &&& 1431655765)).toUInt32 >>> (Int32.toUInt32 2 &&& Int32.toUInt32 31)).toInt32) &&& 858993459)) + (((((x - (((x.toUInt32 >>> (Int32.toUInt32 1 &&& Int32.toUInt32 31)).toInt32) &&& 1431655765)) &&& 858993459) + ((((x - (((x.toUInt32 >>> (Int32.toUInt32 1 &&& Int32.toUInt32 31)).toInt32) &&& 1431655765)).toUInt32 >>> (Int32.toUInt32 2 &&& Int32.toUInt32 31)).toInt32) &&& 858993459)).toUInt32 >>> (Int32.toUInt32 4 &&& Int32.toUInt32 31)).toInt32)) &&& 252645135).toUInt32 >>> (Int32.toUInt32 8 &&& Int32.toUInt32 31)).toInt32)) + ((((((((x - (((x.toUInt32 >>> (Int32.toUInt32 1 &&& Int32.toUInt32 31)).toInt32) &&& 1431655765)) &&& 858993459) + ((((x - (((x.toUInt32 >>> (Int32.toUInt32 1 &&& Int32.toUInt32 31)).toInt32) &&& 1431655765)).toUInt32 >>> (Int32.toUInt32 2 &&& Int32.toUInt32 31)).toInt32) &&& 858993459)) + (((((x - (((x.toUInt32 >>> (Int32.toUInt32 1 &&& Int32.toUInt32 31)).toInt32) &&& 1431655765)) &&& 858993459) + ((((x - (((x.toUInt32 >>> (Int32.toUInt32 1 &&& Int32.toUInt32 31)).toInt32) &&& 1431655765)).toUInt32 >>> (Int32.toUInt32 2 &&& Int32.toUInt32 31)).toInt32) &&& 858993459)).toUInt32 >>> (Int32.toUInt32 4 &&& Int32.toUInt32 31)).toInt32)) &&& 252645135) + (((((((x - (((x.toUInt32 >>> (Int32.toUInt32 1 &&& Int32.toUInt32 31)).toInt32) &&& 1431655765)) &&& 858993459) + ((((x - (((x.toUInt32 >>> (Int32.toUInt32 1 &&& Int32.toUInt32 31)).toInt32) &&& 1431655765)).toUInt32 >>> (Int32.toUInt32 2 &&& Int32.toUInt32 31)).toInt32) &&& 858993459)) + (((((x - (((x.toUInt32 >>> (Int32.toUInt32 1 &&& Int32.toUInt32 31)).toInt32) &&& 1431655765)) &&& 858993459) + ((((x - (((x.toUInt32 >>> (Int32.toUInt32 1 &&& Int32.toUInt32 31)).toInt32) &&& 1431655765)).toUInt32 >>> (Int32.toUInt32 2 &&& Int32.toUInt32 31)).toInt32) &&& 858993459)).toUInt32 >>> (Int32.toUInt32 4 &&& Int32.toUInt32 31)).toInt32)) &&& 252645135).toUInt32 >>> (Int32.toUInt32 8 &&& Int32.toUInt32 31)).toInt32)).toUInt32 >>> (Int32.toUInt32 16 &&& Int32.toUInt32 31)).toInt32)) &&& 63) (nI m) = nI (s_on m) := by decide +kernel
  subst hx
  exact ⟨by rw [← e m hm], rfl⟩

set_option maxHeartbeats 400000 in
set_option maxRecDepth 100000 in
theorem c_X6_cover (G : am_G) (D : Nat) (A : am_S) (σ : am_M) (hA : wf_A A) (hX : iv_X A σ) (w : Int32) : am_Mt G (D + 6) mX6_cover [.ref 32, .int w] σ 0 0 (am_qC A (.int (sp_cover A w)) σ) := by
  have b7 := wf_np7 hA
  have b8 := wf_nq8 hA
  have b6 := wf_nt6 hA
  have b61 := wf_nt1 hA
  have b160 := wf_tp160 hA
  have brl := wf_rlt hA
  refine am_of moX6_cover (Nat.le_of_ble_eq_true rfl) ?_
  show am_Ev G mX6_cover (am_R (D + 6) 0 0) 0 0 (am_qC A (.int (sp_cover A w)) σ) 0 [(0, .ref 32), (1, .int w)] [] σ 0 0
  obtain ⟨hn1, hn2⟩ := h2n7 b7
  refine ev_iload_n dX6_cover_0 rfl rfl ?_
  refine ev_callS (as := [.int w]) (st := []) dX6_cover_1 mfX6_isZeroOrOne lk_X6_158 (c_X6_isZeroOrOne G (D + 5) σ w) rfl rfl (Nat.le_of_ble_eq_true rfl) (am_hR (by omega) (by decide)) ⟨Nat.le_refl _, Nat.le_refl _⟩ ?_
  rintro _ _ (⟨rfl | rfl, rfl, rfl⟩ | ⟨h1, rfl, rfl⟩)
  · skip
    refine ev_if_ne (tgt := 10) dX6_cover_4 (by decide) (fun _ => ?_) (fun c => absurd c (by decide))
    refine ev_aload_n dX6_cover_10 rfl rfl ?_
    refine ev_callV (as := []) (st := []) dX6_cover_11 mfX6_reckon lk_X6_164 (ly_k hX.ly 32 rfl) (by decide) rfl (c_X6_reckon G (D + 1) A σ hA hX ) rfl rfl (Nat.le_of_ble_eq_true rfl) (am_hR (by omega) (by decide)) ⟨Nat.le_refl _, Nat.le_refl _⟩ ?_
    rintro _ σ2 ⟨rfl, hX2, hF2, hc2, hr2⟩
    refine ev_iconst (v := 1) dX6_cover_14 (by decide) ?_
    refine ev_aload_n dX6_cover_15 rfl rfl ?_
    refine ev_getI (v := nI (s_np A)) dX6_cover_16 fl_X6_85 (ly_k hX2.ly 32 rfl) (hX2.f12.trans (wf_np hA)) ?_
    refine ev_ishl (v := 1 <<< ((nI (s_np A)) &&& 31)) dX6_cover_19 rfl ?_
    refine ev_iconst (v := 1) dX6_cover_20 (by decide) ?_
    refine ev_isub (v := nI (2 ^ s_np A - 1)) dX6_cover_21 (s_all (by omega)) ?_
    refine ev_istore_n (lv' := [(0, .ref 32), (1, .int 0), (2, .int (nI (2 ^ s_np A - 1)))]) dX6_cover_22 rfl (by decide) rfl ?_
    refine ev_aload_n dX6_cover_23 rfl rfl ?_
    refine ev_getR (b := 54) dX6_cover_24 fl_X6_55 (ly_k hX2.ly 32 rfl) (ly_r hX2.ly 8 rfl) ?_
    refine ev_iload_n dX6_cover_27 rfl rfl ?_
    refine ev_callV (as := [.int (nI (2 ^ s_np A - 1))]) (st := []) dX6_cover_28 mfX0_coveredBy lk_X6_180 (ly_k hX2.ly 54 rfl) (by decide) rfl (c_X0_coveredBy G (D + 4) A σ2 hA hX2 (2 ^ s_np A - 1) hc2) rfl rfl (Nat.le_of_ble_eq_true rfl) (am_hR (by omega) (by decide)) ⟨Nat.le_refl _, Nat.le_refl _⟩ ?_
    rintro _ _ ⟨rfl, rfl⟩
    refine ev_istore_n (lv' := [(0, .ref 32), (1, .int 0), (2, .int (nI (2 ^ s_np A - 1))), (3, .int (nI (s_cv A (2 ^ s_np A - 1))))]) dX6_cover_31 rfl (by decide) rfl ?_
    refine ev_iload_n dX6_cover_32 rfl rfl ?_
    refine ev_istore (lv' := [(0, .ref 32), (1, .int 0), (2, .int (nI (2 ^ s_np A - 1))), (3, .int (nI (s_cv A (2 ^ s_np A - 1)))), (4, .int (nI (2 ^ s_np A - 1)))]) dX6_cover_33 (by decide) rfl ?_
    refine ev_iconst (v := 0) dX6_cover_35 (by decide) ?_
    refine ev_istore (lv' := [(0, .ref 32), (1, .int 0), (2, .int (nI (2 ^ s_np A - 1))), (3, .int (nI (s_cv A (2 ^ s_np A - 1)))), (4, .int (nI (2 ^ s_np A - 1))), (5, .int 0)]) dX6_cover_36 (by decide) rfl ?_
    have lp : ∀ (f : Nat) (k : Nat) (F : Nat), (k ≤ 2 ^ s_np A - 1) → (F = (s_co A k).getD (2 ^ s_np A - 1)) → (F ≤ 2 ^ s_np A - 1) → 2 ^ s_np A - 1 - k < f → am_Ev G mX6_cover (am_R (D + 6) 0 0) 0 0 (am_qC A (.int (sp_cover A 0)) σ) 38 [(0, .ref 32), (1, .int 0), (2, .int (nI (2 ^ s_np A - 1))), (3, .int (nI (s_cv A (2 ^ s_np A - 1)))), (4, .int (nI F)), (5, .int (nI k))] [] σ2 0 0 := by
      intro f
      induction f with
      | zero => intro k F hk hF hFl hf; exact absurd hf (Nat.not_lt_zero _)
      | succ f ih =>
        intro k F hk hF hFl hf
        refine ev_iload dX6_cover_38 rfl ?_
        refine ev_iload_n dX6_cover_40 rfl rfl ?_
        refine ev_icmp_ge (tgt := 92) dX6_cover_41 (by decide) (fun c3 => ?_) (fun c3 => ?_)
        · skip
          have c3n : (2 ^ s_np A - 1) ≤ k := (nI_leI (a := (2 ^ s_np A - 1)) (b := k) (by omega) (by omega)).mp c3
          refine ev_iload_n dX6_cover_92 rfl rfl ?_
          refine ev_if_ne (tgt := 104) dX6_cover_93 (by decide) (fun c => absurd (by decide) c) (fun _ => ?_)
          refine ev_iload dX6_cover_96 rfl ?_
          refine ev_callS (as := [.int (nI F)]) (st := []) dX6_cover_98 mfJ6_bitCount_0f7a4 lk_X6_196 (c_bitCount G (D + 5) σ2 F (by omega) _ rfl) rfl rfl (Nat.le_of_ble_eq_true rfl) (am_hR (by omega) (by decide)) ⟨Nat.le_refl _, Nat.le_refl _⟩ ?_
          rintro _ _ ⟨rfl, rfl⟩
          have hon3 := s_on12 F
          refine ev_goto (tgt := 106) dX6_cover_101 (by decide) ?_
          refine ev_reti dX6_cover_106 rfl (Nat.zero_le _) (Nat.zero_le _) ?_
          have e : k = 2 ^ s_np A - 1 := by omega
          subst e
          have hob := s_coE b7 hF
          refine ⟨?_, hX2, (fr_C.tr fr_C.rf hF2)⟩
          simp [sp_cover, ← hob]
        · skip
          have c3n : ¬ (2 ^ s_np A - 1) ≤ k := fun zz => c3 ((nI_leI (a := (2 ^ s_np A - 1)) (b := k) (by omega) (by omega)).mpr zz)
          refine ev_iload dX6_cover_44 rfl ?_
          refine ev_callS (as := [.int (nI k)]) (st := []) dX6_cover_46 mfJ6_bitCount_0f7a4 lk_X6_196 (c_bitCount G (D + 5) σ2 k (by omega) _ rfl) rfl rfl (Nat.le_of_ble_eq_true rfl) (am_hR (by omega) (by decide)) ⟨Nat.le_refl _, Nat.le_refl _⟩ ?_
          rintro _ _ ⟨rfl, rfl⟩
          have hon3 := s_on12 k
          refine ev_iload dX6_cover_49 rfl ?_
          refine ev_callS (as := [.int (nI F)]) (st := [.int (nI (s_on k))]) dX6_cover_51 mfJ6_bitCount_0f7a4 lk_X6_196 (c_bitCount G (D + 5) σ2 F (by omega) _ rfl) rfl rfl (Nat.le_of_ble_eq_true rfl) (am_hR (by omega) (by decide)) ⟨Nat.le_refl _, Nat.le_refl _⟩ ?_
          rintro _ _ ⟨rfl, rfl⟩
          have hon3 := s_on12 F
          refine ev_icmp_ge (tgt := 61) dX6_cover_54 (by decide) (fun c4 => ?_) (fun c4 => ?_)
          · skip
            have c4n : (s_on F) ≤ (s_on k) := (nI_leI (a := (s_on F)) (b := (s_on k)) (by omega) (by omega)).mp c4
            refine ev_iconst (v := 0) dX6_cover_61 (by decide) ?_
            refine ev_istore (lv' := [(0, .ref 32), (1, .int 0), (2, .int (nI (2 ^ s_np A - 1))), (3, .int (nI (s_cv A (2 ^ s_np A - 1)))), (4, .int (nI F)), (5, .int (nI k)), (6, .int 0)]) dX6_cover_62 (by decide) rfl ?_
            refine ev_iload dX6_cover_64 rfl ?_
            refine ev_if_eq (tgt := 86) dX6_cover_66 (by decide) (fun _ => ?_) (fun c => absurd (by decide) c)
            refine ev_iinc (lv' := [(0, .ref 32), (1, .int 0), (2, .int (nI (2 ^ s_np A - 1))), (3, .int (nI (s_cv A (2 ^ s_np A - 1)))), (4, .int (nI F)), (5, .int (nI (k + 1))), (6, .int 0)]) (v := nI (k + 1)) dX6_cover_86 rfl (nI_1 _) (by decide) rfl ?_
            refine ev_goto (tgt := 38) dX6_cover_89 (by decide) ?_
            refine ev_keep (lv' := [(0, .ref 32), (1, .int 0), (2, .int (nI (2 ^ s_np A - 1))), (3, .int (nI (s_cv A (2 ^ s_np A - 1)))), (4, .int (nI F)), (5, .int (nI (k + 1)))]) [0, 1, 2, 3, 4, 5] rfl ?_
            exact ih (k + 1) F (by omega) (s_coX b7 (by omega) hF (fun z => absurd z.1 (Nat.not_lt.mpr c4n))) (by omega) (by omega)
          · skip
            have c4n : ¬ (s_on F) ≤ (s_on k) := fun zz => c4 ((nI_leI (a := (s_on F)) (b := (s_on k)) (by omega) (by omega)).mpr zz)
            refine ev_iconst (v := 1) dX6_cover_57 (by decide) ?_
            refine ev_goto (tgt := 62) dX6_cover_58 (by decide) ?_
            refine ev_istore (lv' := [(0, .ref 32), (1, .int 0), (2, .int (nI (2 ^ s_np A - 1))), (3, .int (nI (s_cv A (2 ^ s_np A - 1)))), (4, .int (nI F)), (5, .int (nI k)), (6, .int 1)]) dX6_cover_62 (by decide) rfl ?_
            refine ev_iload dX6_cover_64 rfl ?_
            refine ev_if_eq (tgt := 86) dX6_cover_66 (by decide) (fun c => absurd c (by decide)) (fun _ => ?_)
            refine ev_aload_n dX6_cover_69 rfl rfl ?_
            refine ev_getR (b := 54) dX6_cover_70 fl_X6_55 (ly_k hX2.ly 32 rfl) (ly_r hX2.ly 8 rfl) ?_
            refine ev_iload dX6_cover_73 rfl ?_
            refine ev_callV (as := [.int (nI k)]) (st := []) dX6_cover_75 mfX0_coveredBy lk_X6_180 (ly_k hX2.ly 54 rfl) (by decide) rfl (c_X0_coveredBy G (D + 4) A σ2 hA hX2 k hc2) rfl rfl (Nat.le_of_ble_eq_true rfl) (am_hR (by omega) (by decide)) ⟨Nat.le_refl _, Nat.le_refl _⟩ ?_
            rintro _ _ ⟨rfl, rfl⟩
            have hcv1 := s_cv31 b8 k
            have hcv2 := s_cv31 b8 (2 ^ s_np A - 1)
            refine ev_iload_n dX6_cover_78 rfl rfl ?_
            refine ev_icmp_ne (tgt := 86) dX6_cover_79 (by decide) (fun c5 => ?_) (fun c5 => ?_)
            · skip
              have c5n : ¬ (s_cv A k) = (s_cv A (2 ^ s_np A - 1)) := fun zz => c5 ((nI_eq (a := (s_cv A k)) (b := (s_cv A (2 ^ s_np A - 1))) (by omega) (by omega)).mpr zz)
              refine ev_iinc (lv' := [(0, .ref 32), (1, .int 0), (2, .int (nI (2 ^ s_np A - 1))), (3, .int (nI (s_cv A (2 ^ s_np A - 1)))), (4, .int (nI F)), (5, .int (nI (k + 1))), (6, .int 1)]) (v := nI (k + 1)) dX6_cover_86 rfl (nI_1 _) (by decide) rfl ?_
              refine ev_goto (tgt := 38) dX6_cover_89 (by decide) ?_
              refine ev_keep (lv' := [(0, .ref 32), (1, .int 0), (2, .int (nI (2 ^ s_np A - 1))), (3, .int (nI (s_cv A (2 ^ s_np A - 1)))), (4, .int (nI F)), (5, .int (nI (k + 1)))]) [0, 1, 2, 3, 4, 5] rfl ?_
              exact ih (k + 1) F (by omega) (s_coX b7 (by omega) hF (fun z => c5n z.2)) (by omega) (by omega)
            · skip
              have c5n : (s_cv A k) = (s_cv A (2 ^ s_np A - 1)) := (nI_eq (a := (s_cv A k)) (b := (s_cv A (2 ^ s_np A - 1))) (by omega) (by omega)).mp c5
              refine ev_iload dX6_cover_82 rfl ?_
              refine ev_istore (lv' := [(0, .ref 32), (1, .int 0), (2, .int (nI (2 ^ s_np A - 1))), (3, .int (nI (s_cv A (2 ^ s_np A - 1)))), (4, .int (nI k)), (5, .int (nI k)), (6, .int 1)]) dX6_cover_84 (by decide) rfl ?_
              refine ev_iinc (lv' := [(0, .ref 32), (1, .int 0), (2, .int (nI (2 ^ s_np A - 1))), (3, .int (nI (s_cv A (2 ^ s_np A - 1)))), (4, .int (nI k)), (5, .int (nI (k + 1))), (6, .int 1)]) (v := nI (k + 1)) dX6_cover_86 rfl (nI_1 _) (by decide) rfl ?_
              refine ev_goto (tgt := 38) dX6_cover_89 (by decide) ?_
              refine ev_keep (lv' := [(0, .ref 32), (1, .int 0), (2, .int (nI (2 ^ s_np A - 1))), (3, .int (nI (s_cv A (2 ^ s_np A - 1)))), (4, .int (nI k)), (5, .int (nI (k + 1)))]) [0, 1, 2, 3, 4, 5] rfl ?_
              exact ih (k + 1) k (by omega) (s_coY b7 (by omega) hF ⟨Nat.not_le.mp c4n, c5n⟩) (by omega) (by omega)
    exact lp _ 0 (2 ^ s_np A - 1) (Nat.zero_le _) rfl (Nat.le_refl _) (Nat.lt_succ_self _)
  · skip
    refine ev_if_ne (tgt := 10) dX6_cover_4 (by decide) (fun _ => ?_) (fun c => absurd c (by decide))
    refine ev_aload_n dX6_cover_10 rfl rfl ?_
    refine ev_callV (as := []) (st := []) dX6_cover_11 mfX6_reckon lk_X6_164 (ly_k hX.ly 32 rfl) (by decide) rfl (c_X6_reckon G (D + 1) A σ hA hX ) rfl rfl (Nat.le_of_ble_eq_true rfl) (am_hR (by omega) (by decide)) ⟨Nat.le_refl _, Nat.le_refl _⟩ ?_
    rintro _ σ6 ⟨rfl, hX6, hF6, hc6, hr6⟩
    refine ev_iconst (v := 1) dX6_cover_14 (by decide) ?_
    refine ev_aload_n dX6_cover_15 rfl rfl ?_
    refine ev_getI (v := nI (s_np A)) dX6_cover_16 fl_X6_85 (ly_k hX6.ly 32 rfl) (hX6.f12.trans (wf_np hA)) ?_
    refine ev_ishl (v := 1 <<< ((nI (s_np A)) &&& 31)) dX6_cover_19 rfl ?_
    refine ev_iconst (v := 1) dX6_cover_20 (by decide) ?_
    refine ev_isub (v := nI (2 ^ s_np A - 1)) dX6_cover_21 (s_all (by omega)) ?_
    refine ev_istore_n (lv' := [(0, .ref 32), (1, .int 1), (2, .int (nI (2 ^ s_np A - 1)))]) dX6_cover_22 rfl (by decide) rfl ?_
    refine ev_aload_n dX6_cover_23 rfl rfl ?_
    refine ev_getR (b := 54) dX6_cover_24 fl_X6_55 (ly_k hX6.ly 32 rfl) (ly_r hX6.ly 8 rfl) ?_
    refine ev_iload_n dX6_cover_27 rfl rfl ?_
    refine ev_callV (as := [.int (nI (2 ^ s_np A - 1))]) (st := []) dX6_cover_28 mfX0_coveredBy lk_X6_180 (ly_k hX6.ly 54 rfl) (by decide) rfl (c_X0_coveredBy G (D + 4) A σ6 hA hX6 (2 ^ s_np A - 1) hc6) rfl rfl (Nat.le_of_ble_eq_true rfl) (am_hR (by omega) (by decide)) ⟨Nat.le_refl _, Nat.le_refl _⟩ ?_
    rintro _ _ ⟨rfl, rfl⟩
    refine ev_istore_n (lv' := [(0, .ref 32), (1, .int 1), (2, .int (nI (2 ^ s_np A - 1))), (3, .int (nI (s_cv A (2 ^ s_np A - 1))))]) dX6_cover_31 rfl (by decide) rfl ?_
    refine ev_iload_n dX6_cover_32 rfl rfl ?_
    refine ev_istore (lv' := [(0, .ref 32), (1, .int 1), (2, .int (nI (2 ^ s_np A - 1))), (3, .int (nI (s_cv A (2 ^ s_np A - 1)))), (4, .int (nI (2 ^ s_np A - 1)))]) dX6_cover_33 (by decide) rfl ?_
    refine ev_iconst (v := 0) dX6_cover_35 (by decide) ?_
    refine ev_istore (lv' := [(0, .ref 32), (1, .int 1), (2, .int (nI (2 ^ s_np A - 1))), (3, .int (nI (s_cv A (2 ^ s_np A - 1)))), (4, .int (nI (2 ^ s_np A - 1))), (5, .int 0)]) dX6_cover_36 (by decide) rfl ?_
    have lp : ∀ (f : Nat) (k : Nat) (F : Nat), (k ≤ 2 ^ s_np A - 1) → (F = (s_co A k).getD (2 ^ s_np A - 1)) → (F ≤ 2 ^ s_np A - 1) → 2 ^ s_np A - 1 - k < f → am_Ev G mX6_cover (am_R (D + 6) 0 0) 0 0 (am_qC A (.int (sp_cover A 1)) σ) 38 [(0, .ref 32), (1, .int 1), (2, .int (nI (2 ^ s_np A - 1))), (3, .int (nI (s_cv A (2 ^ s_np A - 1)))), (4, .int (nI F)), (5, .int (nI k))] [] σ6 0 0 := by
      intro f
      induction f with
      | zero => intro k F hk hF hFl hf; exact absurd hf (Nat.not_lt_zero _)
      | succ f ih =>
        intro k F hk hF hFl hf
        refine ev_iload dX6_cover_38 rfl ?_
        refine ev_iload_n dX6_cover_40 rfl rfl ?_
        refine ev_icmp_ge (tgt := 92) dX6_cover_41 (by decide) (fun c7 => ?_) (fun c7 => ?_)
        · skip
          have c7n : (2 ^ s_np A - 1) ≤ k := (nI_leI (a := (2 ^ s_np A - 1)) (b := k) (by omega) (by omega)).mp c7
          refine ev_iload_n dX6_cover_92 rfl rfl ?_
          refine ev_if_ne (tgt := 104) dX6_cover_93 (by decide) (fun _ => ?_) (fun c => absurd c (by decide))
          refine ev_iload dX6_cover_104 rfl ?_
          refine ev_reti dX6_cover_106 rfl (Nat.zero_le _) (Nat.zero_le _) ?_
          have e : k = 2 ^ s_np A - 1 := by omega
          subst e
          have hob := s_coE b7 hF
          refine ⟨?_, hX6, (fr_C.tr fr_C.rf hF6)⟩
          simp [sp_cover, ← hob]
        · skip
          have c7n : ¬ (2 ^ s_np A - 1) ≤ k := fun zz => c7 ((nI_leI (a := (2 ^ s_np A - 1)) (b := k) (by omega) (by omega)).mpr zz)
          refine ev_iload dX6_cover_44 rfl ?_
          refine ev_callS (as := [.int (nI k)]) (st := []) dX6_cover_46 mfJ6_bitCount_0f7a4 lk_X6_196 (c_bitCount G (D + 5) σ6 k (by omega) _ rfl) rfl rfl (Nat.le_of_ble_eq_true rfl) (am_hR (by omega) (by decide)) ⟨Nat.le_refl _, Nat.le_refl _⟩ ?_
          rintro _ _ ⟨rfl, rfl⟩
          have hon7 := s_on12 k
          refine ev_iload dX6_cover_49 rfl ?_
          refine ev_callS (as := [.int (nI F)]) (st := [.int (nI (s_on k))]) dX6_cover_51 mfJ6_bitCount_0f7a4 lk_X6_196 (c_bitCount G (D + 5) σ6 F (by omega) _ rfl) rfl rfl (Nat.le_of_ble_eq_true rfl) (am_hR (by omega) (by decide)) ⟨Nat.le_refl _, Nat.le_refl _⟩ ?_
          rintro _ _ ⟨rfl, rfl⟩
          have hon7 := s_on12 F
          refine ev_icmp_ge (tgt := 61) dX6_cover_54 (by decide) (fun c8 => ?_) (fun c8 => ?_)
          · skip
            have c8n : (s_on F) ≤ (s_on k) := (nI_leI (a := (s_on F)) (b := (s_on k)) (by omega) (by omega)).mp c8
            refine ev_iconst (v := 0) dX6_cover_61 (by decide) ?_
            refine ev_istore (lv' := [(0, .ref 32), (1, .int 1), (2, .int (nI (2 ^ s_np A - 1))), (3, .int (nI (s_cv A (2 ^ s_np A - 1)))), (4, .int (nI F)), (5, .int (nI k)), (6, .int 0)]) dX6_cover_62 (by decide) rfl ?_
            refine ev_iload dX6_cover_64 rfl ?_
            refine ev_if_eq (tgt := 86) dX6_cover_66 (by decide) (fun _ => ?_) (fun c => absurd (by decide) c)
            refine ev_iinc (lv' := [(0, .ref 32), (1, .int 1), (2, .int (nI (2 ^ s_np A - 1))), (3, .int (nI (s_cv A (2 ^ s_np A - 1)))), (4, .int (nI F)), (5, .int (nI (k + 1))), (6, .int 0)]) (v := nI (k + 1)) dX6_cover_86 rfl (nI_1 _) (by decide) rfl ?_
            refine ev_goto (tgt := 38) dX6_cover_89 (by decide) ?_
            refine ev_keep (lv' := [(0, .ref 32), (1, .int 1), (2, .int (nI (2 ^ s_np A - 1))), (3, .int (nI (s_cv A (2 ^ s_np A - 1)))), (4, .int (nI F)), (5, .int (nI (k + 1)))]) [0, 1, 2, 3, 4, 5] rfl ?_
            exact ih (k + 1) F (by omega) (s_coX b7 (by omega) hF (fun z => absurd z.1 (Nat.not_lt.mpr c8n))) (by omega) (by omega)
          · skip
            have c8n : ¬ (s_on F) ≤ (s_on k) := fun zz => c8 ((nI_leI (a := (s_on F)) (b := (s_on k)) (by omega) (by omega)).mpr zz)
            refine ev_iconst (v := 1) dX6_cover_57 (by decide) ?_
            refine ev_goto (tgt := 62) dX6_cover_58 (by decide) ?_
            refine ev_istore (lv' := [(0, .ref 32), (1, .int 1), (2, .int (nI (2 ^ s_np A - 1))), (3, .int (nI (s_cv A (2 ^ s_np A - 1)))), (4, .int (nI F)), (5, .int (nI k)), (6, .int 1)]) dX6_cover_62 (by decide) rfl ?_
            refine ev_iload dX6_cover_64 rfl ?_
            refine ev_if_eq (tgt := 86) dX6_cover_66 (by decide) (fun c => absurd c (by decide)) (fun _ => ?_)
            refine ev_aload_n dX6_cover_69 rfl rfl ?_
            refine ev_getR (b := 54) dX6_cover_70 fl_X6_55 (ly_k hX6.ly 32 rfl) (ly_r hX6.ly 8 rfl) ?_
            refine ev_iload dX6_cover_73 rfl ?_
            refine ev_callV (as := [.int (nI k)]) (st := []) dX6_cover_75 mfX0_coveredBy lk_X6_180 (ly_k hX6.ly 54 rfl) (by decide) rfl (c_X0_coveredBy G (D + 4) A σ6 hA hX6 k hc6) rfl rfl (Nat.le_of_ble_eq_true rfl) (am_hR (by omega) (by decide)) ⟨Nat.le_refl _, Nat.le_refl _⟩ ?_
            rintro _ _ ⟨rfl, rfl⟩
            have hcv1 := s_cv31 b8 k
            have hcv2 := s_cv31 b8 (2 ^ s_np A - 1)
            refine ev_iload_n dX6_cover_78 rfl rfl ?_
            refine ev_icmp_ne (tgt := 86) dX6_cover_79 (by decide) (fun c9 => ?_) (fun c9 => ?_)
            · skip
              have c9n : ¬ (s_cv A k) = (s_cv A (2 ^ s_np A - 1)) := fun zz => c9 ((nI_eq (a := (s_cv A k)) (b := (s_cv A (2 ^ s_np A - 1))) (by omega) (by omega)).mpr zz)
              refine ev_iinc (lv' := [(0, .ref 32), (1, .int 1), (2, .int (nI (2 ^ s_np A - 1))), (3, .int (nI (s_cv A (2 ^ s_np A - 1)))), (4, .int (nI F)), (5, .int (nI (k + 1))), (6, .int 1)]) (v := nI (k + 1)) dX6_cover_86 rfl (nI_1 _) (by decide) rfl ?_
              refine ev_goto (tgt := 38) dX6_cover_89 (by decide) ?_
              refine ev_keep (lv' := [(0, .ref 32), (1, .int 1), (2, .int (nI (2 ^ s_np A - 1))), (3, .int (nI (s_cv A (2 ^ s_np A - 1)))), (4, .int (nI F)), (5, .int (nI (k + 1)))]) [0, 1, 2, 3, 4, 5] rfl ?_
              exact ih (k + 1) F (by omega) (s_coX b7 (by omega) hF (fun z => c9n z.2)) (by omega) (by omega)
            · skip
              have c9n : (s_cv A k) = (s_cv A (2 ^ s_np A - 1)) := (nI_eq (a := (s_cv A k)) (b := (s_cv A (2 ^ s_np A - 1))) (by omega) (by omega)).mp c9
              refine ev_iload dX6_cover_82 rfl ?_
              refine ev_istore (lv' := [(0, .ref 32), (1, .int 1), (2, .int (nI (2 ^ s_np A - 1))), (3, .int (nI (s_cv A (2 ^ s_np A - 1)))), (4, .int (nI k)), (5, .int (nI k)), (6, .int 1)]) dX6_cover_84 (by decide) rfl ?_
              refine ev_iinc (lv' := [(0, .ref 32), (1, .int 1), (2, .int (nI (2 ^ s_np A - 1))), (3, .int (nI (s_cv A (2 ^ s_np A - 1)))), (4, .int (nI k)), (5, .int (nI (k + 1))), (6, .int 1)]) (v := nI (k + 1)) dX6_cover_86 rfl (nI_1 _) (by decide) rfl ?_
              refine ev_goto (tgt := 38) dX6_cover_89 (by decide) ?_
              refine ev_keep (lv' := [(0, .ref 32), (1, .int 1), (2, .int (nI (2 ^ s_np A - 1))), (3, .int (nI (s_cv A (2 ^ s_np A - 1)))), (4, .int (nI k)), (5, .int (nI (k + 1)))]) [0, 1, 2, 3, 4, 5] rfl ?_
              exact ih (k + 1) k (by omega) (s_coY b7 (by omega) hF ⟨Nat.not_le.mp c8n, c9n⟩) (by omega) (by omega)
    exact lp _ 0 (2 ^ s_np A - 1) (Nat.zero_le _) rfl (Nat.le_refl _) (Nat.lt_succ_self _)
  · skip
    refine ev_if_ne (tgt := 10) dX6_cover_4 (by decide) (fun c => absurd (by decide) c) (fun _ => ?_)
    refine ev_bipush (v := (-2)) dX6_cover_7 (by decide) ?_
    refine ev_reti dX6_cover_9 rfl (Nat.zero_le _) (Nat.zero_le _) ?_
    refine ⟨?_, hX, fr_C.rf⟩
    simp [sp_cover, (show ¬ w = 0 from fun z => h1 (Or.inl z)), (show ¬ w = 1 from fun z => h1 (Or.inr z))]

set_option maxHeartbeats 400000 in
set_option maxRecDepth 100000 in
theorem c_X6_close (G : am_G) (D : Nat) (A : am_S) (σ : am_M) (hA : wf_A A) (hX : iv_X A σ) (k w : Int32) : am_Mt G (D + 6) mX6_close [.ref 32, .int k, .int w] σ 0 0 (am_qC A (.int (sp_close A k w)) σ) := by
  have b7 := wf_np7 hA
  have b8 := wf_nq8 hA
  have b6 := wf_nt6 hA
  have b61 := wf_nt1 hA
  have b160 := wf_tp160 hA
  have brl := wf_rlt hA
  refine am_of moX6_close (Nat.le_of_ble_eq_true rfl) ?_
  show am_Ev G mX6_close (am_R (D + 6) 0 0) 0 0 (am_qC A (.int (sp_close A k w)) σ) 0 [(0, .ref 32), (1, .int k), (2, .int w)] [] σ 0 0
  obtain ⟨hn1, hn2⟩ := h2n8 b8
  refine ev_iload_n dX6_close_0 rfl rfl ?_
  refine ev_if_lt (tgt := 17) dX6_close_1 (by decide) (fun c1 => ?_) (fun c1 => ?_)
  · skip
    refine ev_bipush (v := (-2)) dX6_close_17 (by decide) ?_
    refine ev_reti dX6_close_19 rfl (Nat.zero_le _) (Nat.zero_le _) ?_
    refine ⟨?_, hX, fr_C.rf⟩
    simp [sp_close, (am_inF (x := k) (n := 9) (by decide) (am_rgn (by decide) c1))]
  · skip
    refine ev_iload_n dX6_close_4 rfl rfl ?_
    refine ev_bipush (v := 8) dX6_close_5 (by decide) ?_
    refine ev_icmp_gt (tgt := 17) dX6_close_7 (by decide) (fun c2 => ?_) (fun c2 => ?_)
    · skip
      refine ev_bipush (v := (-2)) dX6_close_17 (by decide) ?_
      refine ev_reti dX6_close_19 rfl (Nat.zero_le _) (Nat.zero_le _) ?_
      refine ⟨?_, hX, fr_C.rf⟩
      simp [sp_close, (am_inF (x := k) (n := 9) (by decide) (am_rgm3 (c := 8) (by decide) (by decide) (Int32.not_le.mpr c2)))]
    · skip
      obtain ⟨K, hK, rfl⟩ : am_rg k 9 := am_rg3 (c := 8) (by decide) c1 (Int32.not_lt.mp c2)
      refine ev_iload_n dX6_close_10 rfl rfl ?_
      refine ev_callS (as := [.int w]) (st := []) dX6_close_11 mfX6_isZeroOrOne lk_X6_158 (c_X6_isZeroOrOne G (D + 5) σ w) rfl rfl (Nat.le_of_ble_eq_true rfl) (am_hR (by omega) (by decide)) ⟨Nat.le_refl _, Nat.le_refl _⟩ ?_
      rintro _ _ (⟨rfl | rfl, rfl, rfl⟩ | ⟨h3, rfl, rfl⟩)
      · skip
        refine ev_if_ne (tgt := 20) dX6_close_14 (by decide) (fun _ => ?_) (fun c => absurd c (by decide))
        refine ev_iload_n dX6_close_20 rfl rfl ?_
        refine ev_aload_n dX6_close_21 rfl rfl ?_
        refine ev_getI (v := nI (s_nq A)) dX6_close_22 fl_X6_88 (ly_k hX.ly 32 rfl) (hX.f13.trans (wf_nq hA)) ?_
        refine ev_icmp_le (tgt := 30) dX6_close_25 (by decide) (fun c4 => ?_) (fun c4 => ?_)
        · skip
          have c4n : K ≤ (s_nq A) := (nI_leI (a := K) (b := (s_nq A)) (by omega) (by omega)).mp c4
          refine ev_aload_n dX6_close_30 rfl rfl ?_
          refine ev_callV (as := []) (st := []) dX6_close_31 mfX6_reckon lk_X6_164 (ly_k hX.ly 32 rfl) (by decide) rfl (c_X6_reckon G (D + 1) A σ hA hX ) rfl rfl (Nat.le_of_ble_eq_true rfl) (am_hR (by omega) (by decide)) ⟨Nat.le_refl _, Nat.le_refl _⟩ ?_
          rintro _ σ5 ⟨rfl, hX5, hF5, hc5, hr5⟩
          refine ev_iconst (v := (-1)) dX6_close_34 (by decide) ?_
          refine ev_istore_n (lv' := [(0, .ref 32), (1, .int (nI K)), (2, .int 0), (3, .int (-1))]) dX6_close_35 rfl (by decide) rfl ?_
          refine ev_iconst (v := (-1)) dX6_close_36 (by decide) ?_
          refine ev_istore (lv' := [(0, .ref 32), (1, .int (nI K)), (2, .int 0), (3, .int (-1)), (4, .int (-1))]) dX6_close_37 (by decide) rfl ?_
          refine ev_iconst (v := 0) dX6_close_39 (by decide) ?_
          refine ev_istore (lv' := [(0, .ref 32), (1, .int (nI K)), (2, .int 0), (3, .int (-1)), (4, .int (-1)), (5, .int 0)]) dX6_close_40 (by decide) rfl ?_
          have lp : ∀ (f : Nat) (n : Nat) (fd : Int32) (lo : Int32), (n ≤ 2 ^ s_nq A) → (fd = s_bi (s_cl A K n)) → (lo = (match s_cl A K n with | none => -1 | some b => s_ap A (fun q => b.testBit q))) → 2 ^ s_nq A - n < f → am_Ev G mX6_close (am_R (D + 6) 0 0) 0 0 (am_qC A (.int (sp_close A (nI K) 0)) σ) 42 [(0, .ref 32), (1, .int (nI K)), (2, .int 0), (3, .int fd), (4, .int lo), (5, .int (nI n))] [] σ5 0 0 := by
            intro f
            induction f with
            | zero => intro n fd lo hn hfd hlo hf; exact absurd hf (Nat.not_lt_zero _)
            | succ f ih =>
              intro n fd lo hn hfd hlo hf
              cases ho : s_cl A K n with
              | none =>
                rw [ho] at hfd hlo; subst hfd; subst hlo
                change am_Ev G mX6_close (am_R (D + 6) 0 0) 0 0 (am_qC A (.int (sp_close A (nI K) 0)) σ) 42 [(0, .ref 32), (1, .int (nI K)), (2, .int 0), (3, .int (-1)), (4, .int (-1)), (5, .int (nI n))] [] σ5 0 0
                refine ev_iload dX6_close_42 rfl ?_
                refine ev_iconst (v := 1) dX6_close_44 (by decide) ?_
                refine ev_aload_n dX6_close_45 rfl rfl ?_
                refine ev_getI (v := nI (s_nq A)) dX6_close_46 fl_X6_88 (ly_k hX5.ly 32 rfl) (hX5.f13.trans (wf_nq hA)) ?_
                refine ev_ishl (v := nI (2 ^ s_nq A)) dX6_close_49 (mk_1s (by omega)) ?_
                refine ev_icmp_ge (tgt := 98) dX6_close_50 (by decide) (fun c6 => ?_) (fun c6 => ?_)
                · skip
                  have c6n : (2 ^ s_nq A) ≤ n := (nI_leI (a := (2 ^ s_nq A)) (b := n) (by omega) (by omega)).mp c6
                  refine ev_iload_n dX6_close_98 rfl rfl ?_
                  refine ev_if_ne (tgt := 106) dX6_close_99 (by decide) (fun c => absurd (by decide) c) (fun _ => ?_)
                  refine ev_iload_n dX6_close_102 rfl rfl ?_
                  refine ev_goto (tgt := 108) dX6_close_103 (by decide) ?_
                  refine ev_reti dX6_close_108 rfl (Nat.zero_le _) (Nat.zero_le _) ?_
                  have e : n = 2 ^ s_nq A := by omega
                  subst e
                  refine ⟨?_, hX5, (fr_C.tr fr_C.rf hF5)⟩
                  simp [sp_close, am_inN hK (by omega), sN_n (show K < 2 ^ 31 by omega), s_cr, ho, s_bi]
                · skip
                  have c6n : ¬ (2 ^ s_nq A) ≤ n := fun zz => c6 ((nI_leI (a := (2 ^ s_nq A)) (b := n) (by omega) (by omega)).mpr zz)
                  refine ev_iload dX6_close_53 rfl ?_
                  refine ev_callS (as := [.int (nI n)]) (st := []) dX6_close_55 mfJ6_bitCount_0f7a4 lk_X6_196 (c_bitCount G (D + 5) σ5 n (by omega) _ rfl) rfl rfl (Nat.le_of_ble_eq_true rfl) (am_hR (by omega) (by decide)) ⟨Nat.le_refl _, Nat.le_refl _⟩ ?_
                  rintro _ _ ⟨rfl, rfl⟩
                  have hon6 := s_on12 n
                  refine ev_iload_n dX6_close_58 rfl rfl ?_
                  refine ev_icmp_eq (tgt := 65) dX6_close_59 (by decide) (fun c7 => ?_) (fun c7 => ?_)
                  · skip
                    have c7n : (s_on n) = K := (nI_eq (a := (s_on n)) (b := K) (by omega) (by omega)).mp c7
                    refine ev_aload_n dX6_close_65 rfl rfl ?_
                    refine ev_iload dX6_close_66 rfl ?_
                    refine ev_callV (as := [.int (nI n)]) (st := []) dX6_close_68 mfX6_apartBy lk_X6_187 (ly_k hX5.ly 32 rfl) (by decide) rfl (c_X6_apartBy G (D + 4) A σ5 hA hX5 n (by omega) hc5 hr5) rfl rfl (Nat.le_of_ble_eq_true rfl) (am_hR (by omega) (by decide)) ⟨Nat.le_refl _, Nat.le_refl _⟩ ?_
                    rintro _ _ ⟨rfl, rfl⟩
                    refine ev_istore (lv' := [(0, .ref 32), (1, .int (nI K)), (2, .int 0), (3, .int (-1)), (4, .int (-1)), (5, .int (nI n)), (6, .int (s_ap A (fun q => (n : Nat).testBit q)))]) dX6_close_71 (by decide) rfl ?_
                    refine ev_iload_n dX6_close_73 rfl rfl ?_
                    refine ev_iconst (v := (-1)) dX6_close_74 (by decide) ?_
                    refine ev_icmp_eq (tgt := 85) dX6_close_75 (by decide) (fun _ => ?_) (fun c => absurd (by decide) c)
                    refine ev_iload dX6_close_85 rfl ?_
                    refine ev_istore_n (lv' := [(0, .ref 32), (1, .int (nI K)), (2, .int 0), (3, .int (nI n)), (4, .int (-1)), (5, .int (nI n)), (6, .int (s_ap A (fun q => (n : Nat).testBit q)))]) dX6_close_87 rfl (by decide) rfl ?_
                    refine ev_iload dX6_close_88 rfl ?_
                    refine ev_istore (lv' := [(0, .ref 32), (1, .int (nI K)), (2, .int 0), (3, .int (nI n)), (4, .int (s_ap A (fun q => (n : Nat).testBit q))), (5, .int (nI n)), (6, .int (s_ap A (fun q => (n : Nat).testBit q)))]) dX6_close_90 (by decide) rfl ?_
                    refine ev_iinc (lv' := [(0, .ref 32), (1, .int (nI K)), (2, .int 0), (3, .int (nI n)), (4, .int (s_ap A (fun q => (n : Nat).testBit q))), (5, .int (nI (n + 1))), (6, .int (s_ap A (fun q => (n : Nat).testBit q)))]) (v := nI (n + 1)) dX6_close_92 rfl (nI_1 _) (by decide) rfl ?_
                    refine ev_goto (tgt := 42) dX6_close_95 (by decide) ?_
                    refine ev_keep (lv' := [(0, .ref 32), (1, .int (nI K)), (2, .int 0), (3, .int (nI n)), (4, .int (s_ap A (fun q => (n : Nat).testBit q))), (5, .int (nI (n + 1)))]) [0, 1, 2, 3, 4, 5] rfl ?_
                    exact ih (n + 1) (nI n) (s_ap A (fun q => (n : Nat).testBit q)) (by omega) (by rw [s_clN c7n ho]; rfl) (by rw [s_clN c7n ho]) (by omega)
                  · skip
                    have c7n : ¬ (s_on n) = K := fun zz => c7 ((nI_eq (a := (s_on n)) (b := K) (by omega) (by omega)).mpr zz)
                    refine ev_goto (tgt := 92) dX6_close_62 (by decide) ?_
                    refine ev_iinc (lv' := [(0, .ref 32), (1, .int (nI K)), (2, .int 0), (3, .int (-1)), (4, .int (-1)), (5, .int (nI (n + 1)))]) (v := nI (n + 1)) dX6_close_92 rfl (nI_1 _) (by decide) rfl ?_
                    refine ev_goto (tgt := 42) dX6_close_95 (by decide) ?_
                    exact ih (n + 1) (-1) (-1) (by omega) (by rw [s_clF c7n, ho]; rfl) (by rw [s_clF c7n, ho]) (by omega)
              | some b =>
                have hbl := s_cllt ho
                rw [ho] at hfd hlo; subst hfd; subst hlo
                change am_Ev G mX6_close (am_R (D + 6) 0 0) 0 0 (am_qC A (.int (sp_close A (nI K) 0)) σ) 42 [(0, .ref 32), (1, .int (nI K)), (2, .int 0), (3, .int (nI b)), (4, .int (s_ap A (fun q => b.testBit q))), (5, .int (nI n))] [] σ5 0 0
                refine ev_iload dX6_close_42 rfl ?_
                refine ev_iconst (v := 1) dX6_close_44 (by decide) ?_
                refine ev_aload_n dX6_close_45 rfl rfl ?_
                refine ev_getI (v := nI (s_nq A)) dX6_close_46 fl_X6_88 (ly_k hX5.ly 32 rfl) (hX5.f13.trans (wf_nq hA)) ?_
                refine ev_ishl (v := nI (2 ^ s_nq A)) dX6_close_49 (mk_1s (by omega)) ?_
                refine ev_icmp_ge (tgt := 98) dX6_close_50 (by decide) (fun c8 => ?_) (fun c8 => ?_)
                · skip
                  have c8n : (2 ^ s_nq A) ≤ n := (nI_leI (a := (2 ^ s_nq A)) (b := n) (by omega) (by omega)).mp c8
                  refine ev_iload_n dX6_close_98 rfl rfl ?_
                  refine ev_if_ne (tgt := 106) dX6_close_99 (by decide) (fun c => absurd (by decide) c) (fun _ => ?_)
                  refine ev_iload_n dX6_close_102 rfl rfl ?_
                  refine ev_goto (tgt := 108) dX6_close_103 (by decide) ?_
                  refine ev_reti dX6_close_108 rfl (Nat.zero_le _) (Nat.zero_le _) ?_
                  have e : n = 2 ^ s_nq A := by omega
                  subst e
                  refine ⟨?_, hX5, (fr_C.tr fr_C.rf hF5)⟩
                  simp [sp_close, am_inN hK (by omega), sN_n (show K < 2 ^ 31 by omega), s_cr, ho, s_bi]
                · skip
                  have c8n : ¬ (2 ^ s_nq A) ≤ n := fun zz => c8 ((nI_leI (a := (2 ^ s_nq A)) (b := n) (by omega) (by omega)).mpr zz)
                  refine ev_iload dX6_close_53 rfl ?_
                  refine ev_callS (as := [.int (nI n)]) (st := []) dX6_close_55 mfJ6_bitCount_0f7a4 lk_X6_196 (c_bitCount G (D + 5) σ5 n (by omega) _ rfl) rfl rfl (Nat.le_of_ble_eq_true rfl) (am_hR (by omega) (by decide)) ⟨Nat.le_refl _, Nat.le_refl _⟩ ?_
                  rintro _ _ ⟨rfl, rfl⟩
                  have hon8 := s_on12 n
                  refine ev_iload_n dX6_close_58 rfl rfl ?_
                  refine ev_icmp_eq (tgt := 65) dX6_close_59 (by decide) (fun c9 => ?_) (fun c9 => ?_)
                  · skip
                    have c9n : (s_on n) = K := (nI_eq (a := (s_on n)) (b := K) (by omega) (by omega)).mp c9
                    refine ev_aload_n dX6_close_65 rfl rfl ?_
                    refine ev_iload dX6_close_66 rfl ?_
                    refine ev_callV (as := [.int (nI n)]) (st := []) dX6_close_68 mfX6_apartBy lk_X6_187 (ly_k hX5.ly 32 rfl) (by decide) rfl (c_X6_apartBy G (D + 4) A σ5 hA hX5 n (by omega) hc5 hr5) rfl rfl (Nat.le_of_ble_eq_true rfl) (am_hR (by omega) (by decide)) ⟨Nat.le_refl _, Nat.le_refl _⟩ ?_
                    rintro _ _ ⟨rfl, rfl⟩
                    refine ev_istore (lv' := [(0, .ref 32), (1, .int (nI K)), (2, .int 0), (3, .int (nI b)), (4, .int (s_ap A (fun q => b.testBit q))), (5, .int (nI n)), (6, .int (s_ap A (fun q => (n : Nat).testBit q)))]) dX6_close_71 (by decide) rfl ?_
                    refine ev_iload_n dX6_close_73 rfl rfl ?_
                    refine ev_iconst (v := (-1)) dX6_close_74 (by decide) ?_
                    refine ev_icmp_eq (tgt := 85) dX6_close_75 (by decide) (fun c => absurd c (s_bi_n (by omega))) (fun _ => ?_)
                    refine ev_iload dX6_close_78 rfl ?_
                    refine ev_iload dX6_close_80 rfl ?_
                    refine ev_icmp_ge (tgt := 92) dX6_close_82 (by decide) (fun c10 => ?_) (fun c10 => ?_)
                    · skip
                      refine ev_iinc (lv' := [(0, .ref 32), (1, .int (nI K)), (2, .int 0), (3, .int (nI b)), (4, .int (s_ap A (fun q => b.testBit q))), (5, .int (nI (n + 1))), (6, .int (s_ap A (fun q => (n : Nat).testBit q)))]) (v := nI (n + 1)) dX6_close_92 rfl (nI_1 _) (by decide) rfl ?_
                      refine ev_goto (tgt := 42) dX6_close_95 (by decide) ?_
                      refine ev_keep (lv' := [(0, .ref 32), (1, .int (nI K)), (2, .int 0), (3, .int (nI b)), (4, .int (s_ap A (fun q => b.testBit q))), (5, .int (nI (n + 1)))]) [0, 1, 2, 3, 4, 5] rfl ?_
                      exact ih (n + 1) (nI b) (s_ap A (fun q => b.testBit q)) (by omega) (by rw [s_clK c9n ho (Int32.not_lt.mpr c10)]; rfl) (by rw [s_clK c9n ho (Int32.not_lt.mpr c10)]) (by omega)
                    · skip
                      refine ev_iload dX6_close_85 rfl ?_
                      refine ev_istore_n (lv' := [(0, .ref 32), (1, .int (nI K)), (2, .int 0), (3, .int (nI n)), (4, .int (s_ap A (fun q => b.testBit q))), (5, .int (nI n)), (6, .int (s_ap A (fun q => (n : Nat).testBit q)))]) dX6_close_87 rfl (by decide) rfl ?_
                      refine ev_iload dX6_close_88 rfl ?_
                      refine ev_istore (lv' := [(0, .ref 32), (1, .int (nI K)), (2, .int 0), (3, .int (nI n)), (4, .int (s_ap A (fun q => (n : Nat).testBit q))), (5, .int (nI n)), (6, .int (s_ap A (fun q => (n : Nat).testBit q)))]) dX6_close_90 (by decide) rfl ?_
                      refine ev_iinc (lv' := [(0, .ref 32), (1, .int (nI K)), (2, .int 0), (3, .int (nI n)), (4, .int (s_ap A (fun q => (n : Nat).testBit q))), (5, .int (nI (n + 1))), (6, .int (s_ap A (fun q => (n : Nat).testBit q)))]) (v := nI (n + 1)) dX6_close_92 rfl (nI_1 _) (by decide) rfl ?_
                      refine ev_goto (tgt := 42) dX6_close_95 (by decide) ?_
                      refine ev_keep (lv' := [(0, .ref 32), (1, .int (nI K)), (2, .int 0), (3, .int (nI n)), (4, .int (s_ap A (fun q => (n : Nat).testBit q))), (5, .int (nI (n + 1)))]) [0, 1, 2, 3, 4, 5] rfl ?_
                      exact ih (n + 1) (nI n) (s_ap A (fun q => (n : Nat).testBit q)) (by omega) (by rw [s_clY c9n ho (Int32.not_le.mp c10)]; rfl) (by rw [s_clY c9n ho (Int32.not_le.mp c10)]) (by omega)
                  · skip
                    have c9n : ¬ (s_on n) = K := fun zz => c9 ((nI_eq (a := (s_on n)) (b := K) (by omega) (by omega)).mpr zz)
                    refine ev_goto (tgt := 92) dX6_close_62 (by decide) ?_
                    refine ev_iinc (lv' := [(0, .ref 32), (1, .int (nI K)), (2, .int 0), (3, .int (nI b)), (4, .int (s_ap A (fun q => b.testBit q))), (5, .int (nI (n + 1)))]) (v := nI (n + 1)) dX6_close_92 rfl (nI_1 _) (by decide) rfl ?_
                    refine ev_goto (tgt := 42) dX6_close_95 (by decide) ?_
                    exact ih (n + 1) (nI b) (s_ap A (fun q => b.testBit q)) (by omega) (by rw [s_clF c9n, ho]; rfl) (by rw [s_clF c9n, ho]) (by omega)
          exact lp _ 0 (-1) (-1) (Nat.zero_le _) rfl rfl (Nat.lt_succ_self _)
        · skip
          have c4n : ¬ K ≤ (s_nq A) := fun zz => c4 ((nI_leI (a := K) (b := (s_nq A)) (by omega) (by omega)).mpr zz)
          refine ev_iconst (v := (-1)) dX6_close_28 (by decide) ?_
          refine ev_reti dX6_close_29 rfl (Nat.zero_le _) (Nat.zero_le _) ?_
          have ho := s_clNo (A := A) b8 (K := K) (by omega) _ (Nat.le_refl _)
          refine ⟨?_, hX, fr_C.rf⟩
          simp [sp_close, am_inN hK (by omega), sN_n (show K < 2 ^ 31 by omega), s_cr, ho, s_bi]
      · skip
        refine ev_if_ne (tgt := 20) dX6_close_14 (by decide) (fun _ => ?_) (fun c => absurd c (by decide))
        refine ev_iload_n dX6_close_20 rfl rfl ?_
        refine ev_aload_n dX6_close_21 rfl rfl ?_
        refine ev_getI (v := nI (s_nq A)) dX6_close_22 fl_X6_88 (ly_k hX.ly 32 rfl) (hX.f13.trans (wf_nq hA)) ?_
        refine ev_icmp_le (tgt := 30) dX6_close_25 (by decide) (fun c11 => ?_) (fun c11 => ?_)
        · skip
          have c11n : K ≤ (s_nq A) := (nI_leI (a := K) (b := (s_nq A)) (by omega) (by omega)).mp c11
          refine ev_aload_n dX6_close_30 rfl rfl ?_
          refine ev_callV (as := []) (st := []) dX6_close_31 mfX6_reckon lk_X6_164 (ly_k hX.ly 32 rfl) (by decide) rfl (c_X6_reckon G (D + 1) A σ hA hX ) rfl rfl (Nat.le_of_ble_eq_true rfl) (am_hR (by omega) (by decide)) ⟨Nat.le_refl _, Nat.le_refl _⟩ ?_
          rintro _ σ12 ⟨rfl, hX12, hF12, hc12, hr12⟩
          refine ev_iconst (v := (-1)) dX6_close_34 (by decide) ?_
          refine ev_istore_n (lv' := [(0, .ref 32), (1, .int (nI K)), (2, .int 1), (3, .int (-1))]) dX6_close_35 rfl (by decide) rfl ?_
          refine ev_iconst (v := (-1)) dX6_close_36 (by decide) ?_
          refine ev_istore (lv' := [(0, .ref 32), (1, .int (nI K)), (2, .int 1), (3, .int (-1)), (4, .int (-1))]) dX6_close_37 (by decide) rfl ?_
          refine ev_iconst (v := 0) dX6_close_39 (by decide) ?_
          refine ev_istore (lv' := [(0, .ref 32), (1, .int (nI K)), (2, .int 1), (3, .int (-1)), (4, .int (-1)), (5, .int 0)]) dX6_close_40 (by decide) rfl ?_
          have lp : ∀ (f : Nat) (n : Nat) (fd : Int32) (lo : Int32), (n ≤ 2 ^ s_nq A) → (fd = s_bi (s_cl A K n)) → (lo = (match s_cl A K n with | none => -1 | some b => s_ap A (fun q => b.testBit q))) → 2 ^ s_nq A - n < f → am_Ev G mX6_close (am_R (D + 6) 0 0) 0 0 (am_qC A (.int (sp_close A (nI K) 1)) σ) 42 [(0, .ref 32), (1, .int (nI K)), (2, .int 1), (3, .int fd), (4, .int lo), (5, .int (nI n))] [] σ12 0 0 := by
            intro f
            induction f with
            | zero => intro n fd lo hn hfd hlo hf; exact absurd hf (Nat.not_lt_zero _)
            | succ f ih =>
              intro n fd lo hn hfd hlo hf
              cases ho : s_cl A K n with
              | none =>
                rw [ho] at hfd hlo; subst hfd; subst hlo
                change am_Ev G mX6_close (am_R (D + 6) 0 0) 0 0 (am_qC A (.int (sp_close A (nI K) 1)) σ) 42 [(0, .ref 32), (1, .int (nI K)), (2, .int 1), (3, .int (-1)), (4, .int (-1)), (5, .int (nI n))] [] σ12 0 0
                refine ev_iload dX6_close_42 rfl ?_
                refine ev_iconst (v := 1) dX6_close_44 (by decide) ?_
                refine ev_aload_n dX6_close_45 rfl rfl ?_
                refine ev_getI (v := nI (s_nq A)) dX6_close_46 fl_X6_88 (ly_k hX12.ly 32 rfl) (hX12.f13.trans (wf_nq hA)) ?_
                refine ev_ishl (v := nI (2 ^ s_nq A)) dX6_close_49 (mk_1s (by omega)) ?_
                refine ev_icmp_ge (tgt := 98) dX6_close_50 (by decide) (fun c13 => ?_) (fun c13 => ?_)
                · skip
                  have c13n : (2 ^ s_nq A) ≤ n := (nI_leI (a := (2 ^ s_nq A)) (b := n) (by omega) (by omega)).mp c13
                  refine ev_iload_n dX6_close_98 rfl rfl ?_
                  refine ev_if_ne (tgt := 106) dX6_close_99 (by decide) (fun _ => ?_) (fun c => absurd c (by decide))
                  refine ev_iload dX6_close_106 rfl ?_
                  refine ev_reti dX6_close_108 rfl (Nat.zero_le _) (Nat.zero_le _) ?_
                  have e : n = 2 ^ s_nq A := by omega
                  subst e
                  refine ⟨?_, hX12, (fr_C.tr fr_C.rf hF12)⟩
                  simp [sp_close, am_inN hK (by omega), sN_n (show K < 2 ^ 31 by omega), s_cr, ho, s_bi]
                · skip
                  have c13n : ¬ (2 ^ s_nq A) ≤ n := fun zz => c13 ((nI_leI (a := (2 ^ s_nq A)) (b := n) (by omega) (by omega)).mpr zz)
                  refine ev_iload dX6_close_53 rfl ?_
                  refine ev_callS (as := [.int (nI n)]) (st := []) dX6_close_55 mfJ6_bitCount_0f7a4 lk_X6_196 (c_bitCount G (D + 5) σ12 n (by omega) _ rfl) rfl rfl (Nat.le_of_ble_eq_true rfl) (am_hR (by omega) (by decide)) ⟨Nat.le_refl _, Nat.le_refl _⟩ ?_
                  rintro _ _ ⟨rfl, rfl⟩
                  have hon13 := s_on12 n
                  refine ev_iload_n dX6_close_58 rfl rfl ?_
                  refine ev_icmp_eq (tgt := 65) dX6_close_59 (by decide) (fun c14 => ?_) (fun c14 => ?_)
                  · skip
                    have c14n : (s_on n) = K := (nI_eq (a := (s_on n)) (b := K) (by omega) (by omega)).mp c14
                    refine ev_aload_n dX6_close_65 rfl rfl ?_
                    refine ev_iload dX6_close_66 rfl ?_
                    refine ev_callV (as := [.int (nI n)]) (st := []) dX6_close_68 mfX6_apartBy lk_X6_187 (ly_k hX12.ly 32 rfl) (by decide) rfl (c_X6_apartBy G (D + 4) A σ12 hA hX12 n (by omega) hc12 hr12) rfl rfl (Nat.le_of_ble_eq_true rfl) (am_hR (by omega) (by decide)) ⟨Nat.le_refl _, Nat.le_refl _⟩ ?_
                    rintro _ _ ⟨rfl, rfl⟩
                    refine ev_istore (lv' := [(0, .ref 32), (1, .int (nI K)), (2, .int 1), (3, .int (-1)), (4, .int (-1)), (5, .int (nI n)), (6, .int (s_ap A (fun q => (n : Nat).testBit q)))]) dX6_close_71 (by decide) rfl ?_
                    refine ev_iload_n dX6_close_73 rfl rfl ?_
                    refine ev_iconst (v := (-1)) dX6_close_74 (by decide) ?_
                    refine ev_icmp_eq (tgt := 85) dX6_close_75 (by decide) (fun _ => ?_) (fun c => absurd (by decide) c)
                    refine ev_iload dX6_close_85 rfl ?_
                    refine ev_istore_n (lv' := [(0, .ref 32), (1, .int (nI K)), (2, .int 1), (3, .int (nI n)), (4, .int (-1)), (5, .int (nI n)), (6, .int (s_ap A (fun q => (n : Nat).testBit q)))]) dX6_close_87 rfl (by decide) rfl ?_
                    refine ev_iload dX6_close_88 rfl ?_
                    refine ev_istore (lv' := [(0, .ref 32), (1, .int (nI K)), (2, .int 1), (3, .int (nI n)), (4, .int (s_ap A (fun q => (n : Nat).testBit q))), (5, .int (nI n)), (6, .int (s_ap A (fun q => (n : Nat).testBit q)))]) dX6_close_90 (by decide) rfl ?_
                    refine ev_iinc (lv' := [(0, .ref 32), (1, .int (nI K)), (2, .int 1), (3, .int (nI n)), (4, .int (s_ap A (fun q => (n : Nat).testBit q))), (5, .int (nI (n + 1))), (6, .int (s_ap A (fun q => (n : Nat).testBit q)))]) (v := nI (n + 1)) dX6_close_92 rfl (nI_1 _) (by decide) rfl ?_
                    refine ev_goto (tgt := 42) dX6_close_95 (by decide) ?_
                    refine ev_keep (lv' := [(0, .ref 32), (1, .int (nI K)), (2, .int 1), (3, .int (nI n)), (4, .int (s_ap A (fun q => (n : Nat).testBit q))), (5, .int (nI (n + 1)))]) [0, 1, 2, 3, 4, 5] rfl ?_
                    exact ih (n + 1) (nI n) (s_ap A (fun q => (n : Nat).testBit q)) (by omega) (by rw [s_clN c14n ho]; rfl) (by rw [s_clN c14n ho]) (by omega)
                  · skip
                    have c14n : ¬ (s_on n) = K := fun zz => c14 ((nI_eq (a := (s_on n)) (b := K) (by omega) (by omega)).mpr zz)
                    refine ev_goto (tgt := 92) dX6_close_62 (by decide) ?_
                    refine ev_iinc (lv' := [(0, .ref 32), (1, .int (nI K)), (2, .int 1), (3, .int (-1)), (4, .int (-1)), (5, .int (nI (n + 1)))]) (v := nI (n + 1)) dX6_close_92 rfl (nI_1 _) (by decide) rfl ?_
                    refine ev_goto (tgt := 42) dX6_close_95 (by decide) ?_
                    exact ih (n + 1) (-1) (-1) (by omega) (by rw [s_clF c14n, ho]; rfl) (by rw [s_clF c14n, ho]) (by omega)
              | some b =>
                have hbl := s_cllt ho
                rw [ho] at hfd hlo; subst hfd; subst hlo
                change am_Ev G mX6_close (am_R (D + 6) 0 0) 0 0 (am_qC A (.int (sp_close A (nI K) 1)) σ) 42 [(0, .ref 32), (1, .int (nI K)), (2, .int 1), (3, .int (nI b)), (4, .int (s_ap A (fun q => b.testBit q))), (5, .int (nI n))] [] σ12 0 0
                refine ev_iload dX6_close_42 rfl ?_
                refine ev_iconst (v := 1) dX6_close_44 (by decide) ?_
                refine ev_aload_n dX6_close_45 rfl rfl ?_
                refine ev_getI (v := nI (s_nq A)) dX6_close_46 fl_X6_88 (ly_k hX12.ly 32 rfl) (hX12.f13.trans (wf_nq hA)) ?_
                refine ev_ishl (v := nI (2 ^ s_nq A)) dX6_close_49 (mk_1s (by omega)) ?_
                refine ev_icmp_ge (tgt := 98) dX6_close_50 (by decide) (fun c15 => ?_) (fun c15 => ?_)
                · skip
                  have c15n : (2 ^ s_nq A) ≤ n := (nI_leI (a := (2 ^ s_nq A)) (b := n) (by omega) (by omega)).mp c15
                  refine ev_iload_n dX6_close_98 rfl rfl ?_
                  refine ev_if_ne (tgt := 106) dX6_close_99 (by decide) (fun _ => ?_) (fun c => absurd c (by decide))
                  refine ev_iload dX6_close_106 rfl ?_
                  refine ev_reti dX6_close_108 rfl (Nat.zero_le _) (Nat.zero_le _) ?_
                  have e : n = 2 ^ s_nq A := by omega
                  subst e
                  refine ⟨?_, hX12, (fr_C.tr fr_C.rf hF12)⟩
                  simp [sp_close, am_inN hK (by omega), sN_n (show K < 2 ^ 31 by omega), s_cr, ho, s_bi]
                · skip
                  have c15n : ¬ (2 ^ s_nq A) ≤ n := fun zz => c15 ((nI_leI (a := (2 ^ s_nq A)) (b := n) (by omega) (by omega)).mpr zz)
                  refine ev_iload dX6_close_53 rfl ?_
                  refine ev_callS (as := [.int (nI n)]) (st := []) dX6_close_55 mfJ6_bitCount_0f7a4 lk_X6_196 (c_bitCount G (D + 5) σ12 n (by omega) _ rfl) rfl rfl (Nat.le_of_ble_eq_true rfl) (am_hR (by omega) (by decide)) ⟨Nat.le_refl _, Nat.le_refl _⟩ ?_
                  rintro _ _ ⟨rfl, rfl⟩
                  have hon15 := s_on12 n
                  refine ev_iload_n dX6_close_58 rfl rfl ?_
                  refine ev_icmp_eq (tgt := 65) dX6_close_59 (by decide) (fun c16 => ?_) (fun c16 => ?_)
                  · skip
                    have c16n : (s_on n) = K := (nI_eq (a := (s_on n)) (b := K) (by omega) (by omega)).mp c16
                    refine ev_aload_n dX6_close_65 rfl rfl ?_
                    refine ev_iload dX6_close_66 rfl ?_
                    refine ev_callV (as := [.int (nI n)]) (st := []) dX6_close_68 mfX6_apartBy lk_X6_187 (ly_k hX12.ly 32 rfl) (by decide) rfl (c_X6_apartBy G (D + 4) A σ12 hA hX12 n (by omega) hc12 hr12) rfl rfl (Nat.le_of_ble_eq_true rfl) (am_hR (by omega) (by decide)) ⟨Nat.le_refl _, Nat.le_refl _⟩ ?_
                    rintro _ _ ⟨rfl, rfl⟩
                    refine ev_istore (lv' := [(0, .ref 32), (1, .int (nI K)), (2, .int 1), (3, .int (nI b)), (4, .int (s_ap A (fun q => b.testBit q))), (5, .int (nI n)), (6, .int (s_ap A (fun q => (n : Nat).testBit q)))]) dX6_close_71 (by decide) rfl ?_
                    refine ev_iload_n dX6_close_73 rfl rfl ?_
                    refine ev_iconst (v := (-1)) dX6_close_74 (by decide) ?_
                    refine ev_icmp_eq (tgt := 85) dX6_close_75 (by decide) (fun c => absurd c (s_bi_n (by omega))) (fun _ => ?_)
                    refine ev_iload dX6_close_78 rfl ?_
                    refine ev_iload dX6_close_80 rfl ?_
                    refine ev_icmp_ge (tgt := 92) dX6_close_82 (by decide) (fun c17 => ?_) (fun c17 => ?_)
                    · skip
                      refine ev_iinc (lv' := [(0, .ref 32), (1, .int (nI K)), (2, .int 1), (3, .int (nI b)), (4, .int (s_ap A (fun q => b.testBit q))), (5, .int (nI (n + 1))), (6, .int (s_ap A (fun q => (n : Nat).testBit q)))]) (v := nI (n + 1)) dX6_close_92 rfl (nI_1 _) (by decide) rfl ?_
                      refine ev_goto (tgt := 42) dX6_close_95 (by decide) ?_
                      refine ev_keep (lv' := [(0, .ref 32), (1, .int (nI K)), (2, .int 1), (3, .int (nI b)), (4, .int (s_ap A (fun q => b.testBit q))), (5, .int (nI (n + 1)))]) [0, 1, 2, 3, 4, 5] rfl ?_
                      exact ih (n + 1) (nI b) (s_ap A (fun q => b.testBit q)) (by omega) (by rw [s_clK c16n ho (Int32.not_lt.mpr c17)]; rfl) (by rw [s_clK c16n ho (Int32.not_lt.mpr c17)]) (by omega)
                    · skip
                      refine ev_iload dX6_close_85 rfl ?_
                      refine ev_istore_n (lv' := [(0, .ref 32), (1, .int (nI K)), (2, .int 1), (3, .int (nI n)), (4, .int (s_ap A (fun q => b.testBit q))), (5, .int (nI n)), (6, .int (s_ap A (fun q => (n : Nat).testBit q)))]) dX6_close_87 rfl (by decide) rfl ?_
                      refine ev_iload dX6_close_88 rfl ?_
                      refine ev_istore (lv' := [(0, .ref 32), (1, .int (nI K)), (2, .int 1), (3, .int (nI n)), (4, .int (s_ap A (fun q => (n : Nat).testBit q))), (5, .int (nI n)), (6, .int (s_ap A (fun q => (n : Nat).testBit q)))]) dX6_close_90 (by decide) rfl ?_
                      refine ev_iinc (lv' := [(0, .ref 32), (1, .int (nI K)), (2, .int 1), (3, .int (nI n)), (4, .int (s_ap A (fun q => (n : Nat).testBit q))), (5, .int (nI (n + 1))), (6, .int (s_ap A (fun q => (n : Nat).testBit q)))]) (v := nI (n + 1)) dX6_close_92 rfl (nI_1 _) (by decide) rfl ?_
                      refine ev_goto (tgt := 42) dX6_close_95 (by decide) ?_
                      refine ev_keep (lv' := [(0, .ref 32), (1, .int (nI K)), (2, .int 1), (3, .int (nI n)), (4, .int (s_ap A (fun q => (n : Nat).testBit q))), (5, .int (nI (n + 1)))]) [0, 1, 2, 3, 4, 5] rfl ?_
                      exact ih (n + 1) (nI n) (s_ap A (fun q => (n : Nat).testBit q)) (by omega) (by rw [s_clY c16n ho (Int32.not_le.mp c17)]; rfl) (by rw [s_clY c16n ho (Int32.not_le.mp c17)]) (by omega)
                  · skip
                    have c16n : ¬ (s_on n) = K := fun zz => c16 ((nI_eq (a := (s_on n)) (b := K) (by omega) (by omega)).mpr zz)
                    refine ev_goto (tgt := 92) dX6_close_62 (by decide) ?_
                    refine ev_iinc (lv' := [(0, .ref 32), (1, .int (nI K)), (2, .int 1), (3, .int (nI b)), (4, .int (s_ap A (fun q => b.testBit q))), (5, .int (nI (n + 1)))]) (v := nI (n + 1)) dX6_close_92 rfl (nI_1 _) (by decide) rfl ?_
                    refine ev_goto (tgt := 42) dX6_close_95 (by decide) ?_
                    exact ih (n + 1) (nI b) (s_ap A (fun q => b.testBit q)) (by omega) (by rw [s_clF c16n, ho]; rfl) (by rw [s_clF c16n, ho]) (by omega)
          exact lp _ 0 (-1) (-1) (Nat.zero_le _) rfl rfl (Nat.lt_succ_self _)
        · skip
          have c11n : ¬ K ≤ (s_nq A) := fun zz => c11 ((nI_leI (a := K) (b := (s_nq A)) (by omega) (by omega)).mpr zz)
          refine ev_iconst (v := (-1)) dX6_close_28 (by decide) ?_
          refine ev_reti dX6_close_29 rfl (Nat.zero_le _) (Nat.zero_le _) ?_
          have ho := s_clNo (A := A) b8 (K := K) (by omega) _ (Nat.le_refl _)
          refine ⟨?_, hX, fr_C.rf⟩
          simp [sp_close, am_inN hK (by omega), sN_n (show K < 2 ^ 31 by omega), s_cr, ho, s_bi]
      · skip
        refine ev_if_ne (tgt := 20) dX6_close_14 (by decide) (fun c => absurd (by decide) c) (fun _ => ?_)
        refine ev_bipush (v := (-2)) dX6_close_17 (by decide) ?_
        refine ev_reti dX6_close_19 rfl (Nat.zero_le _) (Nat.zero_le _) ?_
        refine ⟨?_, hX, fr_C.rf⟩
        simp [sp_close, am_inN hK (by omega), sN_n (show K < 2 ^ 31 by omega), (show ¬ w = 0 from fun z => h3 (Or.inl z)), (show ¬ w = 1 from fun z => h3 (Or.inr z))]

