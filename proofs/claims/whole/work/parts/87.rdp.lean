/-! the class: constructors' fields; a text is read and laid -/
theorem fln_X0_9 : Cond.fieldLink RX0 9 ((am_cl 0).2.1 0).1 ((am_cl 0).2.1 0).2.1 ((am_cl 0).2.1 0).2.2.1 ∈ am_tbl := am_wd (i := 186) (by decide +kernel) (by decide +kernel)
theorem fln_X0_15 : Cond.fieldLink RX0 15 ((am_cl 0).2.1 1).1 ((am_cl 0).2.1 1).2.1 ((am_cl 0).2.1 1).2.2.1 ∈ am_tbl := am_wd (i := 187) (by decide +kernel) (by decide +kernel)
theorem fln_X0_18 : Cond.fieldLink RX0 18 ((am_cl 0).2.1 2).1 ((am_cl 0).2.1 2).2.1 ((am_cl 0).2.1 2).2.2.1 ∈ am_tbl := am_wd (i := 188) (by decide +kernel) (by decide +kernel)
theorem fln_X0_23 : Cond.fieldLink RX0 23 ((am_cl 0).2.1 3).1 ((am_cl 0).2.1 3).2.1 ((am_cl 0).2.1 3).2.2.1 ∈ am_tbl := am_wd (i := 189) (by decide +kernel) (by decide +kernel)
theorem fln_X1_9 : Cond.fieldLink RX1 9 ((am_cl 1).2.1 3).1 ((am_cl 1).2.1 3).2.1 ((am_cl 1).2.1 3).2.2.1 ∈ am_tbl := am_wd (i := 505) (by decide +kernel) (by decide +kernel)
theorem fln_X1_15 : Cond.fieldLink RX1 15 ((am_cl 1).2.1 0).1 ((am_cl 1).2.1 0).2.1 ((am_cl 1).2.1 0).2.2.1 ∈ am_tbl := am_wd (i := 499) (by decide +kernel) (by decide +kernel)
theorem fln_X1_19 : Cond.fieldLink RX1 19 ((am_cl 1).2.1 1).1 ((am_cl 1).2.1 1).2.1 ((am_cl 1).2.1 1).2.2.1 ∈ am_tbl := am_wd (i := 501) (by decide +kernel) (by decide +kernel)
theorem fln_X1_22 : Cond.fieldLink RX1 22 ((am_cl 1).2.1 2).1 ((am_cl 1).2.1 2).2.1 ((am_cl 1).2.1 2).2.2.1 ∈ am_tbl := am_wd (i := 503) (by decide +kernel) (by decide +kernel)
theorem fln_X2_9 : Cond.fieldLink RX2 9 ((am_cl 2).2.1 0).1 ((am_cl 2).2.1 0).2.1 ((am_cl 2).2.1 0).2.2.1 ∈ am_tbl := am_wd (i := 155) (by decide +kernel) (by decide +kernel)
theorem fln_X2_15 : Cond.fieldLink RX2 15 ((am_cl 2).2.1 1).1 ((am_cl 2).2.1 1).2.1 ((am_cl 2).2.1 1).2.2.1 ∈ am_tbl := am_wd (i := 157) (by decide +kernel) (by decide +kernel)
theorem fln_X2_18 : Cond.fieldLink RX2 18 ((am_cl 2).2.1 2).1 ((am_cl 2).2.1 2).2.1 ((am_cl 2).2.1 2).2.2.1 ∈ am_tbl := am_wd (i := 159) (by decide +kernel) (by decide +kernel)
theorem fln_X3_9 : Cond.fieldLink RX3 9 ((am_cl 3).2.1 0).1 ((am_cl 3).2.1 0).2.1 ((am_cl 3).2.1 0).2.2.1 ∈ am_tbl := am_wd (i := 136) (by decide +kernel) (by decide +kernel)
theorem fln_X4_9 : Cond.fieldLink RX4 9 ((am_cl 4).2.1 0).1 ((am_cl 4).2.1 0).2.1 ((am_cl 4).2.1 0).2.2.1 ∈ am_tbl := am_wd (i := 104) (by decide +kernel) (by decide +kernel)
theorem fln_X4_13 : Cond.fieldLink RX4 13 ((am_cl 4).2.1 1).1 ((am_cl 4).2.1 1).2.1 ((am_cl 4).2.1 1).2.2.1 ∈ am_tbl := am_wd (i := 105) (by decide +kernel) (by decide +kernel)
theorem fln_X5_11 : Cond.fieldLink RX5 11 ((am_cl 5).2.1 3).1 ((am_cl 5).2.1 3).2.1 ((am_cl 5).2.1 3).2.2.1 ∈ am_tbl := am_wd (i := 368) (by decide +kernel) (by decide +kernel)
theorem fln_X5_15 : Cond.fieldLink RX5 15 ((am_cl 5).2.1 0).1 ((am_cl 5).2.1 0).2.1 ((am_cl 5).2.1 0).2.2.1 ∈ am_tbl := am_wd (i := 365) (by decide +kernel) (by decide +kernel)
theorem fln_X5_18 : Cond.fieldLink RX5 18 ((am_cl 5).2.1 1).1 ((am_cl 5).2.1 1).2.1 ((am_cl 5).2.1 1).2.2.1 ∈ am_tbl := am_wd (i := 366) (by decide +kernel) (by decide +kernel)
theorem fln_X5_22 : Cond.fieldLink RX5 22 ((am_cl 5).2.1 2).1 ((am_cl 5).2.1 2).2.1 ((am_cl 5).2.1 2).2.2.1 ∈ am_tbl := am_wd (i := 367) (by decide +kernel) (by decide +kernel)
theorem fln_X6_11 : Cond.fieldLink RX6 11 ((am_cl 6).2.1 0).1 ((am_cl 6).2.1 0).2.1 ((am_cl 6).2.1 0).2.2.1 ∈ am_tbl := am_wd (i := 383) (by decide +kernel) (by decide +kernel)
theorem fln_X6_15 : Cond.fieldLink RX6 15 ((am_cl 6).2.1 1).1 ((am_cl 6).2.1 1).2.1 ((am_cl 6).2.1 1).2.2.1 ∈ am_tbl := am_wd (i := 384) (by decide +kernel) (by decide +kernel)
theorem fln_X6_19 : Cond.fieldLink RX6 19 ((am_cl 6).2.1 2).1 ((am_cl 6).2.1 2).2.1 ((am_cl 6).2.1 2).2.2.1 ∈ am_tbl := am_wd (i := 385) (by decide +kernel) (by decide +kernel)
theorem fln_X6_22 : Cond.fieldLink RX6 22 ((am_cl 6).2.1 3).1 ((am_cl 6).2.1 3).2.1 ((am_cl 6).2.1 3).2.2.1 ∈ am_tbl := am_wd (i := 386) (by decide +kernel) (by decide +kernel)
theorem fln_X6_27 : Cond.fieldLink RX6 27 ((am_cl 6).2.1 4).1 ((am_cl 6).2.1 4).2.1 ((am_cl 6).2.1 4).2.2.1 ∈ am_tbl := am_wd (i := 387) (by decide +kernel) (by decide +kernel)
theorem fln_X6_34 : Cond.fieldLink RX6 34 ((am_cl 6).2.1 5).1 ((am_cl 6).2.1 5).2.1 ((am_cl 6).2.1 5).2.2.1 ∈ am_tbl := am_wd (i := 388) (by decide +kernel) (by decide +kernel)
theorem fln_X6_41 : Cond.fieldLink RX6 41 ((am_cl 6).2.1 6).1 ((am_cl 6).2.1 6).2.1 ((am_cl 6).2.1 6).2.2.1 ∈ am_tbl := am_wd (i := 389) (by decide +kernel) (by decide +kernel)
theorem fln_X6_48 : Cond.fieldLink RX6 48 ((am_cl 6).2.1 7).1 ((am_cl 6).2.1 7).2.1 ((am_cl 6).2.1 7).2.2.1 ∈ am_tbl := am_wd (i := 390) (by decide +kernel) (by decide +kernel)
theorem fln_X6_55 : Cond.fieldLink RX6 55 ((am_cl 6).2.1 8).1 ((am_cl 6).2.1 8).2.1 ((am_cl 6).2.1 8).2.2.1 ∈ am_tbl := am_wd (i := 391) (by decide +kernel) (by decide +kernel)
theorem fln_X6_59 : Cond.fieldLink RX6 59 ((am_cl 6).2.1 9).1 ((am_cl 6).2.1 9).2.1 ((am_cl 6).2.1 9).2.2.1 ∈ am_tbl := am_wd (i := 392) (by decide +kernel) (by decide +kernel)
theorem fln_X6_62 : Cond.fieldLink RX6 62 ((am_cl 6).2.1 10).1 ((am_cl 6).2.1 10).2.1 ((am_cl 6).2.1 10).2.2.1 ∈ am_tbl := am_wd (i := 393) (by decide +kernel) (by decide +kernel)
theorem fln_X6_65 : Cond.fieldLink RX6 65 ((am_cl 6).2.1 11).1 ((am_cl 6).2.1 11).2.1 ((am_cl 6).2.1 11).2.2.1 ∈ am_tbl := am_wd (i := 394) (by decide +kernel) (by decide +kernel)
theorem fln_X7_7 : Cond.fieldLink RX7 7 ((am_cl 7).2.1 1).1 ((am_cl 7).2.1 1).2.1 ((am_cl 7).2.1 1).2.2.1 ∈ am_tbl := am_wd (i := 904) (by decide +kernel) (by decide +kernel)
theorem fln_X7_13 : Cond.fieldLink RX7 13 ((am_cl 7).2.1 2).1 ((am_cl 7).2.1 2).2.1 ((am_cl 7).2.1 2).2.2.1 ∈ am_tbl := am_wd (i := 905) (by decide +kernel) (by decide +kernel)
theorem fln_X7_16 : Cond.fieldLink RX7 16 ((am_cl 7).2.1 3).1 ((am_cl 7).2.1 3).2.1 ((am_cl 7).2.1 3).2.2.1 ∈ am_tbl := am_wd (i := 906) (by decide +kernel) (by decide +kernel)
theorem fln_X7_19 : Cond.fieldLink RX7 19 ((am_cl 7).2.1 4).1 ((am_cl 7).2.1 4).2.1 ((am_cl 7).2.1 4).2.2.1 ∈ am_tbl := am_wd (i := 907) (by decide +kernel) (by decide +kernel)
theorem fln_X7_22 : Cond.fieldLink RX7 22 ((am_cl 7).2.1 5).1 ((am_cl 7).2.1 5).2.1 ((am_cl 7).2.1 5).2.2.1 ∈ am_tbl := am_wd (i := 908) (by decide +kernel) (by decide +kernel)
theorem fln_X7_25 : Cond.fieldLink RX7 25 ((am_cl 7).2.1 7).1 ((am_cl 7).2.1 7).2.1 ((am_cl 7).2.1 7).2.2.1 ∈ am_tbl := am_wd (i := 910) (by decide +kernel) (by decide +kernel)
theorem fln_X7_28 : Cond.fieldLink RX7 28 ((am_cl 7).2.1 8).1 ((am_cl 7).2.1 8).2.1 ((am_cl 7).2.1 8).2.2.1 ∈ am_tbl := am_wd (i := 911) (by decide +kernel) (by decide +kernel)
theorem fln_X7_31 : Cond.fieldLink RX7 31 ((am_cl 7).2.1 9).1 ((am_cl 7).2.1 9).2.1 ((am_cl 7).2.1 9).2.2.1 ∈ am_tbl := am_wd (i := 912) (by decide +kernel) (by decide +kernel)
theorem fln_X7_34 : Cond.fieldLink RX7 34 ((am_cl 7).2.1 10).1 ((am_cl 7).2.1 10).2.1 ((am_cl 7).2.1 10).2.2.1 ∈ am_tbl := am_wd (i := 913) (by decide +kernel) (by decide +kernel)
theorem fln_X7_37 : Cond.fieldLink RX7 37 ((am_cl 7).2.1 12).1 ((am_cl 7).2.1 12).2.1 ((am_cl 7).2.1 12).2.2.1 ∈ am_tbl := am_wd (i := 915) (by decide +kernel) (by decide +kernel)
theorem fln_X7_40 : Cond.fieldLink RX7 40 ((am_cl 7).2.1 13).1 ((am_cl 7).2.1 13).2.1 ((am_cl 7).2.1 13).2.2.1 ∈ am_tbl := am_wd (i := 916) (by decide +kernel) (by decide +kernel)
theorem fln_X7_43 : Cond.fieldLink RX7 43 ((am_cl 7).2.1 20).1 ((am_cl 7).2.1 20).2.1 ((am_cl 7).2.1 20).2.2.1 ∈ am_tbl := am_wd (i := 923) (by decide +kernel) (by decide +kernel)
theorem fln_X7_46 : Cond.fieldLink RX7 46 ((am_cl 7).2.1 21).1 ((am_cl 7).2.1 21).2.1 ((am_cl 7).2.1 21).2.2.1 ∈ am_tbl := am_wd (i := 924) (by decide +kernel) (by decide +kernel)
theorem fln_X7_49 : Cond.fieldLink RX7 49 ((am_cl 7).2.1 22).1 ((am_cl 7).2.1 22).2.1 ((am_cl 7).2.1 22).2.2.1 ∈ am_tbl := am_wd (i := 925) (by decide +kernel) (by decide +kernel)
theorem fln_X7_52 : Cond.fieldLink RX7 52 ((am_cl 7).2.1 23).1 ((am_cl 7).2.1 23).2.1 ((am_cl 7).2.1 23).2.2.1 ∈ am_tbl := am_wd (i := 926) (by decide +kernel) (by decide +kernel)
theorem fln_X7_55 : Cond.fieldLink RX7 55 ((am_cl 7).2.1 24).1 ((am_cl 7).2.1 24).2.1 ((am_cl 7).2.1 24).2.2.1 ∈ am_tbl := am_wd (i := 927) (by decide +kernel) (by decide +kernel)
theorem fln_X7_58 : Cond.fieldLink RX7 58 ((am_cl 7).2.1 25).1 ((am_cl 7).2.1 25).2.1 ((am_cl 7).2.1 25).2.2.1 ∈ am_tbl := am_wd (i := 928) (by decide +kernel) (by decide +kernel)
theorem fln_X7_61 : Cond.fieldLink RX7 61 ((am_cl 7).2.1 26).1 ((am_cl 7).2.1 26).2.1 ((am_cl 7).2.1 26).2.2.1 ∈ am_tbl := am_wd (i := 929) (by decide +kernel) (by decide +kernel)
theorem fln_X7_64 : Cond.fieldLink RX7 64 ((am_cl 7).2.1 31).1 ((am_cl 7).2.1 31).2.1 ((am_cl 7).2.1 31).2.2.1 ∈ am_tbl := am_wd (i := 934) (by decide +kernel) (by decide +kernel)
theorem fln_X7_67 : Cond.fieldLink RX7 67 ((am_cl 7).2.1 32).1 ((am_cl 7).2.1 32).2.1 ((am_cl 7).2.1 32).2.2.1 ∈ am_tbl := am_wd (i := 935) (by decide +kernel) (by decide +kernel)
theorem fln_X7_70 : Cond.fieldLink RX7 70 ((am_cl 7).2.1 36).1 ((am_cl 7).2.1 36).2.1 ((am_cl 7).2.1 36).2.2.1 ∈ am_tbl := am_wd (i := 939) (by decide +kernel) (by decide +kernel)
theorem fln_X7_73 : Cond.fieldLink RX7 73 ((am_cl 7).2.1 37).1 ((am_cl 7).2.1 37).2.1 ((am_cl 7).2.1 37).2.2.1 ∈ am_tbl := am_wd (i := 940) (by decide +kernel) (by decide +kernel)
theorem fln_X7_76 : Cond.fieldLink RX7 76 ((am_cl 7).2.1 38).1 ((am_cl 7).2.1 38).2.1 ((am_cl 7).2.1 38).2.2.1 ∈ am_tbl := am_wd (i := 941) (by decide +kernel) (by decide +kernel)
theorem c_copyOf (G : am_G) (D : Nat) (σ : am_M) (a N0 N : Nat) (hk : σ.1[a]? = some (10, N0)) (hN : N < N0) (h0 : N0 ≤ 1000) : am_Mt G (D + 1) mJ7_copyOf_59c91 [.ref a, .int (nI N)] σ 1 N (fun v σ' => v = some (.ref σ.1.length) ∧ σ' = am_ac (am_nw σ 10 N) a σ.1.length 0 0 N) := by
  have hk2 : (am_nw σ 10 N).1[a]? = some (10, N0) := (List.getElem?_append_left (am_len hk)).trans hk
  have hk3 : (am_nw σ 10 N).1[σ.1.length]? = some (10, N) := by
    show (σ.1 ++ [(10, N)])[σ.1.length]? = _
    rw [List.getElem?_append_right (Nat.le_refl _), Nat.sub_self]; rfl
  refine am_of moJ7_copyOf_59c91 (Nat.le_of_ble_eq_true rfl) ?_
  show am_Ev G mJ7_copyOf_59c91 (am_R (D + 1) 1 N) 1 N _ 0 [(0, .ref a), (1, .int (nI N))] [] σ 0 0
  refine ev_iload_n dJ7_copyOf_59c91_0 rfl rfl ?_
  refine ev_aload_n dJ7_copyOf_59c91_1 rfl rfl ?_
  refine ev_alen (v := nI N0) dJ7_copyOf_59c91_2 hk (by decide) rfl ?_
  refine ev_icmp_ne (tgt := 14) dJ7_copyOf_59c91_3 (by decide) (fun _ => ?_) (fun c => absurd ((nI_eq (by omega) (by omega)).mp c) (by omega))
  refine ev_iload_n dJ7_copyOf_59c91_14 rfl rfl ?_
  refine ev_newa (L := σ.1.length) (N := N) dJ7_copyOf_59c91_15 (nI_pos (by omega)) (nI_clamp (by omega)) (by omega) rfl (Nat.le_refl _) (by show 0 + N ≤ N; omega) ?_
  refine ev_astore_n (lv' := [(0, .ref a), (1, .int (nI N)), (2, .ref σ.1.length)]) dJ7_copyOf_59c91_17 rfl (by decide) rfl ?_
  refine ev_aload_n dJ7_copyOf_59c91_18 rfl rfl ?_
  refine ev_iconst (v := 0) dJ7_copyOf_59c91_19 (by decide) ?_
  refine ev_aload_n dJ7_copyOf_59c91_20 rfl rfl ?_
  refine ev_iconst (v := 0) dJ7_copyOf_59c91_21 (by decide) ?_
  refine ev_aload_n dJ7_copyOf_59c91_22 rfl rfl ?_
  refine ev_alen (v := nI N0) dJ7_copyOf_59c91_23 hk2 (by decide) rfl ?_
  refine ev_iload_n dJ7_copyOf_59c91_24 rfl rfl ?_
  refine ev_min (v := nI N) dJ7_copyOf_59c91_25 lk_J7_304 (if_pos (nI_lt hN (by omega))) (Nat.le_of_ble_eq_true rfl) ⟨Nat.le_add_left _ _, by show 21 ≤ 64 * (D + 1); omega⟩ ⟨Nat.le_refl _, by show 0 + N ≤ N; omega⟩ ?_
  refine ev_acpy (i := 0) (j := 0) (c := N) dJ7_copyOf_59c91_28 lk_J7_150 hk2 hk3 (by omega) (by omega) (by omega) (by omega) (Nat.le_of_ble_eq_true rfl) ⟨Nat.le_add_left _ _, by show 64 ≤ 64 * (D + 1); omega⟩ ?_
  refine ev_aload_n dJ7_copyOf_59c91_31 rfl rfl ?_
  exact ev_retar dJ7_copyOf_59c91_32 rfl (Nat.le_refl _) (by show 0 + N ≤ N; omega) ⟨rfl, rfl⟩
/-- a text laid at L -/
def am_tl (σ : am_M) (L a : Nat) (p q : Int32) : am_M := am_sI (am_sI (am_sR (am_sR (am_nw σ 10 32) L 3 (some σ.1.length)) L 0 (some a)) L 1 p) L 2 q
theorem c_X5_init (G : am_G) (D : Nat) (σ : am_M) (L a : Nat) (hk : σ.1[L]? = some (5, 4)) (p q : Int32) : am_Mt G (D + 1) mX5_init [.ref L, .ref a, .int p, .int q] σ 1 32 (fun v σ' => v = none ∧ σ' = am_tl σ L a p q) := by
  have hk2 : (am_nw σ 10 32).1[L]? = some (5, 4) := (List.getElem?_append_left (am_len hk)).trans hk
  refine am_of moX5_init (Nat.le_of_ble_eq_true rfl) ?_
  show am_Ev G mX5_init (am_R (D + 1) 1 32) 1 32 _ 0 [(0, .ref L), (1, .ref a), (2, .int p), (3, .int q)] [] σ 0 0
  refine ev_aload_n dX5_init_0 rfl rfl ?_
  refine ev_obj dX5_init_1 lk_X5_3 (Nat.le_of_ble_eq_true rfl) ⟨Nat.le_add_left _ _, by show 20 ≤ 64 * (D + 1); omega⟩ ?_
  refine ev_aload_n dX5_init_4 rfl rfl ?_
  refine ev_bipush (v := 32) dX5_init_5 (by decide) ?_
  refine ev_newa (L := σ.1.length) (N := 32) dX5_init_7 (by decide) rfl (by decide) rfl (Nat.le_refl _) (by show 0 + 32 ≤ 32; omega) ?_
  refine ev_putRF dX5_init_9 fl_X5_11 fln_X5_11 rfl (by decide) (by decide) hk2 ?_
  refine ev_aload_n dX5_init_12 rfl rfl ?_
  refine ev_aload_n dX5_init_13 rfl rfl ?_
  refine ev_putRF dX5_init_14 fl_X5_15 fln_X5_15 rfl (by decide) (by decide) hk2 ?_
  refine ev_aload_n dX5_init_17 rfl rfl ?_
  refine ev_iload_n dX5_init_18 rfl rfl ?_
  refine ev_putIF dX5_init_19 fl_X5_18 fln_X5_18 rfl (by decide) (by decide) rfl hk2 ?_
  refine ev_aload_n dX5_init_22 rfl rfl ?_
  refine ev_iload_n dX5_init_23 rfl rfl ?_
  refine ev_putIF dX5_init_24 fl_X5_22 fln_X5_22 rfl (by decide) (by decide) rfl hk2 ?_
  exact ev_retv dX5_init_27 rfl (Nat.le_refl _) (by show 0 + 32 ≤ 32; omega) ⟨rfl, rfl⟩
def am_qK (b : Nat → Int32) (n : Nat) (key : Int32) (t : lx_T) (σ0 : am_M) : Option Value → am_M → Prop := fun v σ' => (t.1 = key ∧ v = some (.int 1) ∧ fr_J σ0 σ' ∧ tk_X σ' (lx_nx b n t.2.2)) ∨ (¬ t.1 = key ∧ v = some (.int 0) ∧ σ0 = σ')
def am_qQ (nx : Nat → lx_T) (l : List Int32) (r : lx_F) (σ0 : am_M) : Option Value → am_M → Prop := fun v σ' => (r.1 = true ∧ v = some (.int 1) ∧ fr_K σ0 σ' ∧ tk_X σ' (nx r.2.2.2.2) ∧ st_X σ' (l ++ r.2.1)) ∨ (r.1 = false ∧ v = some (.int 0) ∧ fr_K σ0 σ' ∧ σ'.2.1 38 4 = nI r.2.2.2.1)
theorem qQ1 {nx : Nat → lx_T} {l : List Int32} {r : lx_F} {σ0 σ' : am_M} {cs : List Int32} {t : lx_T} (e : r = (true, cs, t)) (f : fr_K σ0 σ') (h1 : tk_X σ' (nx t.2.2)) (h2 : st_X σ' (l ++ cs)) : am_qQ nx l r σ0 (some (.int 1)) σ' := by subst e; exact Or.inl ⟨rfl, rfl, f, h1, h2⟩
theorem qQ0 {nx : Nat → lx_T} {l : List Int32} {r : lx_F} {σ0 σ' : am_M} {cs : List Int32} {t : lx_T} (e : r = (false, cs, t)) (f : fr_K σ0 σ') (h1 : σ'.2.1 38 4 = nI t.2.1) : am_qQ nx l r σ0 (some (.int 0)) σ' := by subst e; exact Or.inr ⟨rfl, rfl, f, h1⟩
theorem tx_pT {nx : Nat → lx_T} {key : Int32} {t : lx_T} (h : t.1 = key) (h1 : ((rd nx 5).2.2 (nx t.2.2)).1 = true) (h2 : ((rd nx 5).2.2 (nx t.2.2)).2.2.1 = -18) : tx_p nx key t = (true, ((rd nx 5).2.2 (nx t.2.2)).2.1, ((rd nx 5).2.2 (nx t.2.2)).2.2) := (if_pos h).trans (if_pos ⟨h1, h2⟩)
theorem tx_pF {nx : Nat → lx_T} {key : Int32} {t : lx_T} (h : t.1 = key) (h1 : ¬ (((rd nx 5).2.2 (nx t.2.2)).1 = true ∧ ((rd nx 5).2.2 (nx t.2.2)).2.2.1 = -18)) : tx_p nx key t = (false, [], ((rd nx 5).2.2 (nx t.2.2)).2.2) := (if_pos h).trans (if_neg h1)
theorem tx_pB {b : Nat → Int32} {n : Nat} {key : Int32} {t : lx_T} (hn : n ≤ 160) (hk : key ≠ -22) (hK : lx_K n t) (h : (tx_p (lx_nx b n) key t).1 = true) : lx_K n (tx_p (lx_nx b n) key t).2.2 ∧ (tx_p (lx_nx b n) key t).2.1.length + t.2.1 < (tx_p (lx_nx b n) key t).2.2.2.1 ∧ (tx_p (lx_nx b n) key t).2.2.2.1 < (tx_p (lx_nx b n) key t).2.2.2.2 ∧ (tx_p (lx_nx b n) key t).2.2.2.2 ≤ n := by
  by_cases c : t.1 = key
  · by_cases c2 : ((rd (lx_nx b n) 5).2.2 (lx_nx b n t.2.2)).1 = true ∧ ((rd (lx_nx b n) 5).2.2 (lx_nx b n t.2.2)).2.2.1 = -18
    · rw [tx_pT c c2.1 c2.2]
      have h1 := hK.1.2.2.2 (by rw [c]; exact hk)
      obtain ⟨x1, x2⟩ := nx_Y (b := b) (n := n) t.2.2 hK.1.2.1
      obtain ⟨⟨-, -, hE⟩, -⟩ := rd_all (n := n) hn (nx_Y (b := b)) 5 (Nat.le_refl _)
      obtain ⟨y1, y2, y3⟩ := hE _ x1
      obtain ⟨z1, -, -⟩ := y3 c2.1
      have h2 := y1.1.2.2.2 (by rw [c2.2]; decide)
      refine ⟨y1, ?_, h2, y1.1.2.1⟩
      show (((rd (lx_nx b n) 5).2.2 (lx_nx b n t.2.2)).2.1).length + t.2.1 < ((rd (lx_nx b n) 5).2.2 (lx_nx b n t.2.2)).2.2.2.1
      omega
    · rw [tx_pF c c2] at h; cases h
  · rw [tx_pN c] at h; cases h
set_option maxHeartbeats 400000 in
set_option maxRecDepth 100000 in
theorem c_X4_took (G : am_G) (D : Nat) (b : Nat → Int32) (n : Nat) (σ : am_M) (hB : tb_T b n σ) (t : lx_T) (hT : tk_X σ t) (hK : lx_K n t) (key : Int32) : am_Mt G (D + 7) mX4_took [.ref 38, .int key] σ 0 0 (am_qK b n key t σ) := by
  refine am_of moX4_took (Nat.le_of_ble_eq_true rfl) ?_
  show am_Ev G mX4_took (am_R (D + 7) 0 0) 0 0 (am_qK b n key t σ) 0 [(0, .ref 38), (1, .int key)] [] σ 0 0
  refine ev_aload_n dX4_took_0 rfl rfl ?_
  refine ev_getI (v := t.1) dX4_took_1 fl_X4_47 (hB.1.1) hT.1 ?_
  refine ev_iload_n dX4_took_4 rfl rfl ?_
  refine ev_icmp_eq (tgt := 10) dX4_took_5 (by decide) (fun c1 => ?_) (fun c1 => ?_)
  · skip
    refine ev_aload_n dX4_took_10 rfl rfl ?_
    refine ev_callV (as := []) (st := []) dX4_took_11 mfX4_next lk_X4_40 (hB.1.1) (by decide) rfl (c_X4_next G D b n σ hB t.2.2 hK.1.2.1 hT.2.2) rfl rfl (Nat.le_of_ble_eq_true rfl) (am_hR (by omega) (by decide)) ⟨Nat.le_refl _, Nat.le_refl _⟩ ?_
    rintro _ σ2 ⟨rfl, hF2, hT2⟩
    refine ev_iconst (v := 1) dX4_took_14 (by decide) ?_
    refine ev_retz dX4_took_15 rfl (Or.inr rfl) (Nat.zero_le _) (Nat.zero_le _) ?_
    exact Or.inl ⟨c1, rfl, hF2, hT2⟩
  · skip
    refine ev_iconst (v := 0) dX4_took_8 (by decide) ?_
    refine ev_retz dX4_took_9 rfl (Or.inl rfl) (Nat.zero_le _) (Nat.zero_le _) ?_
    exact Or.inr ⟨c1, rfl, rfl⟩

set_option maxHeartbeats 400000 in
set_option maxRecDepth 100000 in
theorem c_X4_readPart (G : am_G) (D : Nat) (b : Nat → Int32) (n : Nat) (σ : am_M) (hB : tb_T b n σ) (l : List Int32) (t : lx_T) (hT : tk_X σ t) (hS : st_X σ l) (hK : lx_K n t) (hl : l.length ≤ t.2.1) (key : Int32) (hkey : key ≠ -22) : am_Mt G (D + 43) mX4_readPart [.ref 38, .int key] σ 0 0 (am_qQ (lx_nx b n) l (tx_p (lx_nx b n) key t) σ) := by
  have h160 := hB.2.2.1
  have k1 := hK.1.1
  have k2 := hK.1.2.1
  have k3 := hK.1.2.2.1
  have k4 := hK.1.2.2.2
  obtain ⟨⟨-, -, hE⟩, -⟩ := rd_all (n := n) h160 (nx_Y (b := b)) 5 (Nat.le_refl _)
  refine am_of moX4_readPart (Nat.le_of_ble_eq_true rfl) ?_
  show am_Ev G mX4_readPart (am_R (D + 43) 0 0) 0 0 (am_qQ (lx_nx b n) l (tx_p (lx_nx b n) key t) σ) 0 [(0, .ref 38), (1, .int key)] [] σ 0 0
  refine ev_aload_n dX4_readPart_0 rfl rfl ?_
  refine ev_iload_n dX4_readPart_1 rfl rfl ?_
  refine ev_callV (as := [.int key]) (st := []) dX4_readPart_2 mfX4_took lk_X4_61 (hB.1.1) (by decide) rfl (c_X4_took G (D + 35) b n σ hB t hT hK key) rfl rfl (Nat.le_of_ble_eq_true rfl) (am_hR (by omega) (by decide)) ⟨Nat.le_refl _, Nat.le_refl _⟩ ?_
  rintro _ σ1 (⟨hk1, rfl, hF1, hT1⟩ | ⟨hk1, rfl, rfl⟩)
  · skip
    have hFF1 : fr_K σ σ1 := fr_K.tr fr_K.rf hF1.K
    have hK1 := nx_Y (b := b) (n := n) _ hK.1.2.1
    have p1 := hK1.2
    have m1 := hK1.1.1.1
    refine ev_if_eq (tgt := 29) dX4_readPart_5 (by decide) (fun c => absurd c (by decide)) (fun _ => ?_)
    refine ev_aload_n dX4_readPart_8 rfl rfl ?_
    refine ev_iconst (v := 0) dX4_readPart_9 (by decide) ?_
    refine ev_callV (as := [.int 0]) (st := []) dX4_readPart_10 mfX4_readE lk_X4_64 ((hB.K hFF1).1.1) (by decide) rfl ((pc_all G b n hB.2.2.1 5 0 rfl).2.2 D σ1 l (lx_nx b n t.2.2) (hB.K hFF1) hT1 (hS.J hF1) hK1.1 (by omega)) rfl rfl (Nat.le_of_ble_eq_true rfl) (am_hR (by omega) (by decide)) ⟨Nat.le_refl _, Nat.le_refl _⟩ ?_
    rintro _ σ2 (⟨ok2, rfl, hF2, hT2, hS2⟩ | ⟨ok2, rfl, hF2, hN2⟩)
    · skip
      have hFF2 : fr_K σ σ2 := fr_K.tr hFF1 hF2
      have hQ2 := hE (lx_nx b n t.2.2) hK1.1
      have q2 := hQ2.2.1
      have qk2 := (hQ2.2.2 ok2).1
      have qn2 := hQ2.1.1.1
      have qm2 := hQ2.1.1.2.1
      have ql2 := len_a (l := l) (m := (((rd (lx_nx b n) 5).2.2) (lx_nx b n t.2.2)).2.1)
      refine ev_if_eq (tgt := 29) dX4_readPart_13 (by decide) (fun c => absurd c (by decide)) (fun _ => ?_)
      refine ev_aload_n dX4_readPart_16 rfl rfl ?_
      refine ev_bipush (v := (-18)) dX4_readPart_17 (by decide) ?_
      refine ev_callV (as := [.int (-18)]) (st := []) dX4_readPart_19 mfX4_took lk_X4_61 ((hB.K hFF2).1.1) (by decide) rfl (c_X4_took G (D + 35) b n σ2 (hB.K hFF2) (((rd (lx_nx b n) 5).2.2) (lx_nx b n t.2.2)).2.2 hT2 hQ2.1 (-18)) rfl rfl (Nat.le_of_ble_eq_true rfl) (am_hR (by omega) (by decide)) ⟨Nat.le_refl _, Nat.le_refl _⟩ ?_
      rintro _ σ3 (⟨hk3, rfl, hF3, hT3⟩ | ⟨hk3, rfl, rfl⟩)
      · skip
        have hFF3 : fr_K σ σ3 := fr_K.tr hFF2 hF3.K
        have hK3 := nx_Y (b := b) (n := n) _ hQ2.1.1.2.1
        have p3 := hK3.2
        have m3 := hK3.1.1.1
        refine ev_if_eq (tgt := 29) dX4_readPart_22 (by decide) (fun c => absurd c (by decide)) (fun _ => ?_)
        refine ev_iconst (v := 1) dX4_readPart_25 (by decide) ?_
        refine ev_goto (tgt := 30) dX4_readPart_26 (by decide) ?_
        refine ev_retz dX4_readPart_30 rfl (Or.inr rfl) (Nat.zero_le _) (Nat.zero_le _) ?_
        refine qQ1 (tx_pT hk1 ok2 hk3) hFF3 hT3 ?_
        exact (hS2.J hF3)
      · skip
        refine ev_if_eq (tgt := 29) dX4_readPart_22 (by decide) (fun _ => ?_) (fun c => absurd (by decide) c)
        refine ev_iconst (v := 0) dX4_readPart_29 (by decide) ?_
        refine ev_retz dX4_readPart_30 rfl (Or.inl rfl) (Nat.zero_le _) (Nat.zero_le _) ?_
        exact qQ0 (tx_pF hk1 (fun z => hk3 z.2)) hFF2 hT2.2.1
    · skip
      have hFF2 : fr_K σ σ2 := fr_K.tr hFF1 hF2
      refine ev_if_eq (tgt := 29) dX4_readPart_13 (by decide) (fun _ => ?_) (fun c => absurd (by decide) c)
      refine ev_iconst (v := 0) dX4_readPart_29 (by decide) ?_
      refine ev_retz dX4_readPart_30 rfl (Or.inl rfl) (Nat.zero_le _) (Nat.zero_le _) ?_
      exact qQ0 (tx_pF hk1 (fun z => by rw [ok2] at z; cases z.1)) hFF2 hN2
  · skip
    refine ev_if_eq (tgt := 29) dX4_readPart_5 (by decide) (fun _ => ?_) (fun c => absurd (by decide) c)
    refine ev_iconst (v := 0) dX4_readPart_29 (by decide) ?_
    refine ev_retz dX4_readPart_30 rfl (Or.inl rfl) (Nat.zero_le _) (Nat.zero_le _) ?_
    exact qQ0 (tx_pN hk1) fr_K.rf hT.2.1

