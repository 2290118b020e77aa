/-! the reference's constructor -/
def am_fs (τ : am_M) (a : Nat) : Nat → List Int32 → am_M
  | _, [] => τ
  | i, v :: l => am_fs (am_sI τ a i v) a (i + 1) l
theorem am_fs1 {a : Nat} : ∀ {l : List Int32} {i : Nat} {τ : am_M}, (am_fs τ a i l).1 = τ.1 ∧ (am_fs τ a i l).2.2 = τ.2.2 ∧ (∀ x k, x ≠ a → (am_fs τ a i l).2.1 x k = τ.2.1 x k) ∧ ∀ k, (am_fs τ a i l).2.1 a k = if i ≤ k ∧ k < i + l.length then l.getD (k - i) 0 else τ.2.1 a k := by
  intro l
  induction l with
  | nil => intro i τ; exact ⟨rfl, rfl, fun _ _ _ => rfl, fun k => by rw [if_neg (by rw [List.length_nil]; omega)]; rfl⟩
  | cons v l ih =>
    intro i τ
    obtain ⟨h1, h2, h3, h4⟩ := ih (i := i + 1) (τ := am_sI τ a i v)
    refine ⟨h1, h2, fun x k hx => (h3 x k hx).trans (am_ua hx), fun k => (h4 k).trans ?_⟩
    rw [List.length_cons]
    by_cases c : i + 1 ≤ k ∧ k < i + 1 + l.length
    · rw [if_pos c, if_pos (by omega), show k - i = (k - (i + 1)) + 1 by omega]
      rfl
    · rw [if_neg c]
      by_cases e : k = i
      · subst e
        rw [if_pos (by omega), Nat.sub_self]
        exact am_us
      · rw [if_neg (by omega)]
        exact am_uk e
def w0_l : List Int32 := [119, 101, 105, 103, 104, 116, 32, 32, 112, 111, 105, 110, 116, 115, 32, 32, 104, 105, 114, 101, 115, 32, 32, 32, 100, 101, 112, 116, 104, 32, 32, 32, 97, 115, 107, 101, 100, 32, 32, 32, 108, 111, 117, 100, 32, 32, 32, 32, 116, 111, 112, 105, 99, 32, 32, 32, 114, 111, 117, 110, 100, 32, 32, 32, 119, 104, 111, 32, 32, 32, 32, 32, 111, 114, 32, 32, 32, 32, 32, 32, 97, 110, 100, 32, 32, 32, 32, 32, 110, 111, 116, 32, 32, 32, 32, 32]
theorem w0_W : ∀ i, i < 96 → w0_l.getD i 0 = lx_W i := by decide +kernel
/-- what a new array of the reference holds -/
def in_l (x : Nat) : List Int32 := match x with
  | 73 => [-1, -1, -1]
  | 80 => [-1, -1, -1, -1]
  | 83 => b0_l
  | 84 => w0_l
  | _ => []
/-- the reference up to its m-th address -/
def in_P (m : Nat) (σ τ : am_M) : Prop := τ.1 = ly_K.take m ∧ (∀ q ∈ ly_R, q.1 = 65 → q.2.2 < m → τ.2.2 65 q.2.1 = some q.2.2) ∧ (∀ x, x < 65 → τ.2.1 x = σ.2.1 x ∧ τ.2.2 x = σ.2.2 x) ∧ (∀ k, τ.2.1 65 k = 0) ∧ ∀ x, 66 ≤ x → x < m → ∀ k, τ.2.1 x k = (in_l x).getD k 0
theorem ly_Ru : ∀ q ∈ ly_R, ∀ r ∈ ly_R, q.1 = 65 → r.1 = 65 → (q.2.2 = r.2.2 ↔ q.2.1 = r.2.1) := by decide +kernel
theorem in_len {m : Nat} {σ τ : am_M} (h : in_P m σ τ) (hm : m ≤ 89) : τ.1.length = m := by
  rw [h.1, List.length_take, show ly_K.length = 89 from rfl]
  omega
theorem in_65 {m : Nat} {σ τ : am_M} (h : in_P m σ τ) (hm : 66 ≤ m) : τ.1[65]? = some (7, 39) := by
  rw [h.1, List.getElem?_take, if_pos (by omega)]
  rfl
theorem in_S {m N j : Nat} {σ τ : am_M} (h : in_P m σ τ) (h66 : 66 ≤ m) (h89 : m < 89) (hK : ly_K[m]? = some (10, N)) (hR : (65, j, m) ∈ ly_R) : in_P (m + 1) σ (am_sR (am_fs (am_nw τ 10 N) m 0 (in_l m)) 65 j (some m)) := by
  have hl := in_len h (by omega)
  obtain ⟨f1, f2, f3, f4⟩ := am_fs1 (a := m) (l := in_l m) (i := 0) (τ := am_nw τ 10 N)
  obtain ⟨p1, p2, p3, p4, p5⟩ := h
  refine ⟨?_, fun q hq hq1 hq2 => ?_, fun x hx => ⟨funext fun k => ?_, funext fun k => ?_⟩, fun k => ?_, fun x hx1 hx2 k => ?_⟩
  · refine f1.trans ?_
    show τ.1 ++ [(10, N)] = _
    rw [List.take_succ, hK, p1]
    rfl
  · by_cases e : q.2.1 = j
    · have := (ly_Ru q hq _ hR hq1 rfl).mpr e
      rw [e, this]
      exact am_us
    · have e2 : q.2.2 ≠ m := fun z => e ((ly_Ru q hq _ hR hq1 rfl).mp z)
      refine (am_uk e).trans ?_
      rw [f2, am_nwR (by omega)]
      exact p2 q hq hq1 (by omega)
  · exact (f3 x k (by omega)).trans ((am_nwI (by omega)).trans (congrFun (p3 x hx).1 k))
  · refine (am_ua (by omega)).trans ?_
    rw [f2, am_nwR (by omega)]
    exact congrFun (p3 x hx).2 k
  · exact (f3 65 k (by omega)).trans ((am_nwI (by omega)).trans (p4 k))
  · by_cases e : x = m
    · subst e
      refine (f4 k).trans ?_
      by_cases c : 0 ≤ k ∧ k < 0 + (in_l x).length
      · rw [if_pos c, Nat.sub_zero]
      · rw [if_neg c, List.getD_eq_getElem?_getD, List.getElem?_eq_none (by omega)]
        show (if x = τ.1.length then (0 : Int32) else _) = 0
        rw [if_pos hl.symm]
    · exact (f3 x k e).trans ((am_nwI (by omega)).trans (p5 x hx1 (by omega) k))
/-- the abstract state of a new object -/
def ini_A (A : am_S) : Prop := (∀ k, k ≠ 14 → A 65 k = 0) ∧ A 65 14 = 1 ∧ (A 71 = fun _ => 0) ∧ (A 72 = fun _ => 0) ∧ (∀ k, A 73 k = if k < 3 then -1 else 0) ∧ A 74 = b0_T ∧ (A 79 = fun _ => 0) ∧ (∀ s, s < 4 → A 80 s = -1) ∧ (∀ k, A 81 k = 0) ∧ (∀ k, A 82 k = 0) ∧ wo_A A ∧ ∃ Z, s_nt Z = 0 ∧ tx_K Z A (tx (lx_nx b0_T 50)).2.1
theorem am_g3 (k : Nat) : ([-1, -1, -1] : List Int32).getD k 0 = if k < 3 then -1 else 0 := by
  match k with
  | 0 => rfl
  | 1 => rfl
  | 2 => rfl
  | k + 3 => rw [if_neg (by omega)]; rfl
theorem am_g4 : ∀ s, s < 4 → ([-1, -1, -1, -1] : List Int32).getD s 0 = -1 := by decide
theorem am_g50 {k : Nat} (h : ¬ k < 50) : b0_T k = 0 := by
  unfold b0_T
  rw [List.getD_eq_getElem?_getD, List.getElem?_eq_none (by show 50 ≤ k; omega)]
  rfl
theorem b0_B (i : Nat) (h : i < 50) : am_rg (b0_T i) 256 := by
  have z : ∀ i, i < 50 → am_in (b0_T i) 256 = true := by decide +kernel
  exact (am_inR (by decide)).mp (z i h)
theorem ly_R5 : ∀ q ∈ ly_R, q.1 ≤ 65 ∧ q.2.2 < 89 := by decide
set_option maxHeartbeats 4000000 in
set_option maxRecDepth 100000 in
theorem c_X7_init (G : am_G) (D : Nat) (σ : am_M) (hP : in_P 66 σ σ) (hC : ∀ q ∈ ly_R, q.1 < 65 → σ.2.2 q.1 q.2.1 = some q.2.2) : am_Mt G (D + 5) mX7_init [.ref 65] σ 23 2245 (fun r σ' => r = none ∧ ∃ A, ini_A A ∧ iv_M A σ' ∧ ∀ x, x < 65 → σ'.2.1 x = σ.2.1 x ∧ σ'.2.2 x = σ.2.2 x) := by
  refine am_of moX7_init (Nat.le_of_ble_eq_true rfl) ?_
  show am_Ev G mX7_init (am_R (D + 5) 23 2245) 23 2245 _ 0 [(0, .ref 65)] [] σ 0 0
  refine ev_aload_n dX7_init_0 rfl rfl ?_
  refine ev_obj dX7_init_1 lk_X7_1 (Nat.le_of_ble_eq_true rfl) ⟨Nat.le_add_left _ _, by show 20 ≤ 64 * (D + 5); omega⟩ ?_
  have h66 := hP
  refine ev_aload_n dX7_init_4 rfl rfl ?_
  refine ev_bipush (v := 7) dX7_init_5 (by decide) ?_
  have l66 : σ.1.length = 66 := in_len h66 (by decide)
  refine ev_newa (L := 66) (N := 7) dX7_init_7 (by decide) rfl (by decide) l66 (Nat.le_of_ble_eq_true rfl) (Nat.le_of_ble_eq_true rfl) ?_
  have k66 : (am_nw σ 10 7).1[65]? = some (7, 39) := am_nwK (in_65 h66 (by decide))
  refine ev_putRF dX7_init_9 fl_X7_7 fln_X7_7 rfl (by decide) (by decide) k66 ?_
  have h67 := in_S h66 (by decide) (by decide) (j := 1) (N := 7) rfl (by decide)
  change am_Ev G mX7_init (am_R (D + 5) 23 2245) 23 2245 _ 12 [(0, .ref 65)] [] (am_sR (am_fs (am_nw σ 10 7) 66 0 (in_l 66)) 65 1 (some 66)) 1 7
  generalize am_sR (am_fs (am_nw σ 10 7) 66 0 (in_l 66)) 65 1 (some 66) = t67 at h67 ⊢
  clear h66
  refine ev_aload_n dX7_init_12 rfl rfl ?_
  refine ev_bipush (v := 7) dX7_init_13 (by decide) ?_
  have l67 : t67.1.length = 67 := in_len h67 (by decide)
  refine ev_newa (L := 67) (N := 7) dX7_init_15 (by decide) rfl (by decide) l67 (Nat.le_of_ble_eq_true rfl) (Nat.le_of_ble_eq_true rfl) ?_
  have k67 : (am_nw t67 10 7).1[65]? = some (7, 39) := am_nwK (in_65 h67 (by decide))
  refine ev_putRF dX7_init_17 fl_X7_13 fln_X7_13 rfl (by decide) (by decide) k67 ?_
  have h68 := in_S h67 (by decide) (by decide) (j := 2) (N := 7) rfl (by decide)
  change am_Ev G mX7_init (am_R (D + 5) 23 2245) 23 2245 _ 20 [(0, .ref 65)] [] (am_sR (am_fs (am_nw t67 10 7) 67 0 (in_l 67)) 65 2 (some 67)) 2 14
  generalize am_sR (am_fs (am_nw t67 10 7) 67 0 (in_l 67)) 65 2 (some 67) = t68 at h68 ⊢
  clear h67
  refine ev_aload_n dX7_init_20 rfl rfl ?_
  refine ev_bipush (v := 7) dX7_init_21 (by decide) ?_
  have l68 : t68.1.length = 68 := in_len h68 (by decide)
  refine ev_newa (L := 68) (N := 7) dX7_init_23 (by decide) rfl (by decide) l68 (Nat.le_of_ble_eq_true rfl) (Nat.le_of_ble_eq_true rfl) ?_
  have k68 : (am_nw t68 10 7).1[65]? = some (7, 39) := am_nwK (in_65 h68 (by decide))
  refine ev_putRF dX7_init_25 fl_X7_16 fln_X7_16 rfl (by decide) (by decide) k68 ?_
  have h69 := in_S h68 (by decide) (by decide) (j := 3) (N := 7) rfl (by decide)
  change am_Ev G mX7_init (am_R (D + 5) 23 2245) 23 2245 _ 28 [(0, .ref 65)] [] (am_sR (am_fs (am_nw t68 10 7) 68 0 (in_l 68)) 65 3 (some 68)) 3 21
  generalize am_sR (am_fs (am_nw t68 10 7) 68 0 (in_l 68)) 65 3 (some 68) = t69 at h69 ⊢
  clear h68
  refine ev_aload_n dX7_init_28 rfl rfl ?_
  refine ev_bipush (v := 7) dX7_init_29 (by decide) ?_
  have l69 : t69.1.length = 69 := in_len h69 (by decide)
  refine ev_newa (L := 69) (N := 7) dX7_init_31 (by decide) rfl (by decide) l69 (Nat.le_of_ble_eq_true rfl) (Nat.le_of_ble_eq_true rfl) ?_
  have k69 : (am_nw t69 10 7).1[65]? = some (7, 39) := am_nwK (in_65 h69 (by decide))
  refine ev_putRF dX7_init_33 fl_X7_19 fln_X7_19 rfl (by decide) (by decide) k69 ?_
  have h70 := in_S h69 (by decide) (by decide) (j := 4) (N := 7) rfl (by decide)
  change am_Ev G mX7_init (am_R (D + 5) 23 2245) 23 2245 _ 36 [(0, .ref 65)] [] (am_sR (am_fs (am_nw t69 10 7) 69 0 (in_l 69)) 65 4 (some 69)) 4 28
  generalize am_sR (am_fs (am_nw t69 10 7) 69 0 (in_l 69)) 65 4 (some 69) = t70 at h70 ⊢
  clear h69
  refine ev_aload_n dX7_init_36 rfl rfl ?_
  refine ev_bipush (v := 28) dX7_init_37 (by decide) ?_
  have l70 : t70.1.length = 70 := in_len h70 (by decide)
  refine ev_newa (L := 70) (N := 28) dX7_init_39 (by decide) rfl (by decide) l70 (Nat.le_of_ble_eq_true rfl) (Nat.le_of_ble_eq_true rfl) ?_
  have k70 : (am_nw t70 10 28).1[65]? = some (7, 39) := am_nwK (in_65 h70 (by decide))
  refine ev_putRF dX7_init_41 fl_X7_22 fln_X7_22 rfl (by decide) (by decide) k70 ?_
  have h71 := in_S h70 (by decide) (by decide) (j := 5) (N := 28) rfl (by decide)
  change am_Ev G mX7_init (am_R (D + 5) 23 2245) 23 2245 _ 44 [(0, .ref 65)] [] (am_sR (am_fs (am_nw t70 10 28) 70 0 (in_l 70)) 65 5 (some 70)) 5 56
  generalize am_sR (am_fs (am_nw t70 10 28) 70 0 (in_l 70)) 65 5 (some 70) = t71 at h71 ⊢
  clear h70
  refine ev_aload_n dX7_init_44 rfl rfl ?_
  refine ev_bipush (v := 8) dX7_init_45 (by decide) ?_
  have l71 : t71.1.length = 71 := in_len h71 (by decide)
  refine ev_newa (L := 71) (N := 8) dX7_init_47 (by decide) rfl (by decide) l71 (Nat.le_of_ble_eq_true rfl) (Nat.le_of_ble_eq_true rfl) ?_
  have k71 : (am_nw t71 10 8).1[65]? = some (7, 39) := am_nwK (in_65 h71 (by decide))
  refine ev_putRF dX7_init_49 fl_X7_25 fln_X7_25 rfl (by decide) (by decide) k71 ?_
  have h72 := in_S h71 (by decide) (by decide) (j := 7) (N := 8) rfl (by decide)
  change am_Ev G mX7_init (am_R (D + 5) 23 2245) 23 2245 _ 52 [(0, .ref 65)] [] (am_sR (am_fs (am_nw t71 10 8) 71 0 (in_l 71)) 65 7 (some 71)) 6 64
  generalize am_sR (am_fs (am_nw t71 10 8) 71 0 (in_l 71)) 65 7 (some 71) = t72 at h72 ⊢
  clear h71
  refine ev_aload_n dX7_init_52 rfl rfl ?_
  refine ev_bipush (v := 8) dX7_init_53 (by decide) ?_
  have l72 : t72.1.length = 72 := in_len h72 (by decide)
  refine ev_newa (L := 72) (N := 8) dX7_init_55 (by decide) rfl (by decide) l72 (Nat.le_of_ble_eq_true rfl) (Nat.le_of_ble_eq_true rfl) ?_
  have k72 : (am_nw t72 10 8).1[65]? = some (7, 39) := am_nwK (in_65 h72 (by decide))
  refine ev_putRF dX7_init_57 fl_X7_28 fln_X7_28 rfl (by decide) (by decide) k72 ?_
  have h73 := in_S h72 (by decide) (by decide) (j := 8) (N := 8) rfl (by decide)
  change am_Ev G mX7_init (am_R (D + 5) 23 2245) 23 2245 _ 60 [(0, .ref 65)] [] (am_sR (am_fs (am_nw t72 10 8) 72 0 (in_l 72)) 65 8 (some 72)) 7 72
  generalize am_sR (am_fs (am_nw t72 10 8) 72 0 (in_l 72)) 65 8 (some 72) = t73 at h73 ⊢
  clear h72
  refine ev_aload_n dX7_init_60 rfl rfl ?_
  refine ev_iconst (v := 3) dX7_init_61 (by decide) ?_
  have l73 : t73.1.length = 73 := in_len h73 (by decide)
  refine ev_newa (L := 73) (N := 3) dX7_init_62 (by decide) rfl (by decide) l73 (Nat.le_of_ble_eq_true rfl) (Nat.le_of_ble_eq_true rfl) ?_
  have g73 : (am_nw t73 10 3).1[73]? = some (10, 3) := by have z := am_nwL (σ := t73) (c := 10) (n := 3); rw [l73] at z; exact z
  refine ev_dup dX7_init_64 rfl ?_
  refine ev_iconst (v := 0) dX7_init_65 (by decide) ?_
  refine ev_iconst (v := (-1)) dX7_init_66 (by decide) ?_
  refine ev_iast dX7_init_67 g73 (am_ixn (j := 0) (by decide) (by decide)) ?_
  refine ev_dup dX7_init_68 rfl ?_
  refine ev_iconst (v := 1) dX7_init_69 (by decide) ?_
  refine ev_iconst (v := (-1)) dX7_init_70 (by decide) ?_
  refine ev_iast dX7_init_71 g73 (am_ixn (j := 1) (by decide) (by decide)) ?_
  refine ev_dup dX7_init_72 rfl ?_
  refine ev_iconst (v := 2) dX7_init_73 (by decide) ?_
  refine ev_iconst (v := (-1)) dX7_init_74 (by decide) ?_
  refine ev_iast dX7_init_75 g73 (am_ixn (j := 2) (by decide) (by decide)) ?_
  have k73 : (am_nw t73 10 3).1[65]? = some (7, 39) := am_nwK (in_65 h73 (by decide))
  refine ev_putRF dX7_init_76 fl_X7_31 fln_X7_31 rfl (by decide) (by decide) k73 ?_
  have h74 := in_S h73 (by decide) (by decide) (j := 9) (N := 3) rfl (by decide)
  change am_Ev G mX7_init (am_R (D + 5) 23 2245) 23 2245 _ 79 [(0, .ref 65)] [] (am_sR (am_fs (am_nw t73 10 3) 73 0 (in_l 73)) 65 9 (some 73)) 8 75
  generalize am_sR (am_fs (am_nw t73 10 3) 73 0 (in_l 73)) 65 9 (some 73) = t74 at h74 ⊢
  clear h73
  refine ev_aload_n dX7_init_79 rfl rfl ?_
  refine ev_sipush (v := 160) dX7_init_80 (by decide) ?_
  have l74 : t74.1.length = 74 := in_len h74 (by decide)
  refine ev_newa (L := 74) (N := 160) dX7_init_83 (by decide) rfl (by decide) l74 (Nat.le_of_ble_eq_true rfl) (Nat.le_of_ble_eq_true rfl) ?_
  have k74 : (am_nw t74 10 160).1[65]? = some (7, 39) := am_nwK (in_65 h74 (by decide))
  refine ev_putRF dX7_init_85 fl_X7_34 fln_X7_34 rfl (by decide) (by decide) k74 ?_
  have h75 := in_S h74 (by decide) (by decide) (j := 10) (N := 160) rfl (by decide)
  change am_Ev G mX7_init (am_R (D + 5) 23 2245) 23 2245 _ 88 [(0, .ref 65)] [] (am_sR (am_fs (am_nw t74 10 160) 74 0 (in_l 74)) 65 10 (some 74)) 9 235
  generalize am_sR (am_fs (am_nw t74 10 160) 74 0 (in_l 74)) 65 10 (some 74) = t75 at h75 ⊢
  clear h74
  refine ev_aload_n dX7_init_88 rfl rfl ?_
  refine ev_sipush (v := 1200) dX7_init_89 (by decide) ?_
  have l75 : t75.1.length = 75 := in_len h75 (by decide)
  refine ev_newa (L := 75) (N := 1200) dX7_init_92 (by decide) rfl (by decide) l75 (Nat.le_of_ble_eq_true rfl) (Nat.le_of_ble_eq_true rfl) ?_
  have k75 : (am_nw t75 10 1200).1[65]? = some (7, 39) := am_nwK (in_65 h75 (by decide))
  refine ev_putRF dX7_init_94 fl_X7_37 fln_X7_37 rfl (by decide) (by decide) k75 ?_
  have h76 := in_S h75 (by decide) (by decide) (j := 12) (N := 1200) rfl (by decide)
  change am_Ev G mX7_init (am_R (D + 5) 23 2245) 23 2245 _ 97 [(0, .ref 65)] [] (am_sR (am_fs (am_nw t75 10 1200) 75 0 (in_l 75)) 65 12 (some 75)) 10 1435
  generalize am_sR (am_fs (am_nw t75 10 1200) 75 0 (in_l 75)) 65 12 (some 75) = t76 at h76 ⊢
  clear h75
  refine ev_aload_n dX7_init_97 rfl rfl ?_
  refine ev_bipush (v := 24) dX7_init_98 (by decide) ?_
  have l76 : t76.1.length = 76 := in_len h76 (by decide)
  refine ev_newa (L := 76) (N := 24) dX7_init_100 (by decide) rfl (by decide) l76 (Nat.le_of_ble_eq_true rfl) (Nat.le_of_ble_eq_true rfl) ?_
  have k76 : (am_nw t76 10 24).1[65]? = some (7, 39) := am_nwK (in_65 h76 (by decide))
  refine ev_putRF dX7_init_102 fl_X7_40 fln_X7_40 rfl (by decide) (by decide) k76 ?_
  have h77 := in_S h76 (by decide) (by decide) (j := 13) (N := 24) rfl (by decide)
  change am_Ev G mX7_init (am_R (D + 5) 23 2245) 23 2245 _ 105 [(0, .ref 65)] [] (am_sR (am_fs (am_nw t76 10 24) 76 0 (in_l 76)) 65 13 (some 76)) 11 1459
  generalize am_sR (am_fs (am_nw t76 10 24) 76 0 (in_l 76)) 65 13 (some 76) = t77 at h77 ⊢
  clear h76
  refine ev_aload_n dX7_init_105 rfl rfl ?_
  refine ev_bipush (v := 7) dX7_init_106 (by decide) ?_
  have l77 : t77.1.length = 77 := in_len h77 (by decide)
  refine ev_newa (L := 77) (N := 7) dX7_init_108 (by decide) rfl (by decide) l77 (Nat.le_of_ble_eq_true rfl) (Nat.le_of_ble_eq_true rfl) ?_
  have k77 : (am_nw t77 10 7).1[65]? = some (7, 39) := am_nwK (in_65 h77 (by decide))
  refine ev_putRF dX7_init_110 fl_X7_43 fln_X7_43 rfl (by decide) (by decide) k77 ?_
  have h78 := in_S h77 (by decide) (by decide) (j := 20) (N := 7) rfl (by decide)
  change am_Ev G mX7_init (am_R (D + 5) 23 2245) 23 2245 _ 113 [(0, .ref 65)] [] (am_sR (am_fs (am_nw t77 10 7) 77 0 (in_l 77)) 65 20 (some 77)) 12 1466
  generalize am_sR (am_fs (am_nw t77 10 7) 77 0 (in_l 77)) 65 20 (some 77) = t78 at h78 ⊢
  clear h77
  refine ev_aload_n dX7_init_113 rfl rfl ?_
  refine ev_bipush (v := 28) dX7_init_114 (by decide) ?_
  have l78 : t78.1.length = 78 := in_len h78 (by decide)
  refine ev_newa (L := 78) (N := 28) dX7_init_116 (by decide) rfl (by decide) l78 (Nat.le_of_ble_eq_true rfl) (Nat.le_of_ble_eq_true rfl) ?_
  have k78 : (am_nw t78 10 28).1[65]? = some (7, 39) := am_nwK (in_65 h78 (by decide))
  refine ev_putRF dX7_init_118 fl_X7_46 fln_X7_46 rfl (by decide) (by decide) k78 ?_
  have h79 := in_S h78 (by decide) (by decide) (j := 21) (N := 28) rfl (by decide)
  change am_Ev G mX7_init (am_R (D + 5) 23 2245) 23 2245 _ 121 [(0, .ref 65)] [] (am_sR (am_fs (am_nw t78 10 28) 78 0 (in_l 78)) 65 21 (some 78)) 13 1494
  generalize am_sR (am_fs (am_nw t78 10 28) 78 0 (in_l 78)) 65 21 (some 78) = t79 at h79 ⊢
  clear h78
  refine ev_aload_n dX7_init_121 rfl rfl ?_
  refine ev_iconst (v := 3) dX7_init_122 (by decide) ?_
  have l79 : t79.1.length = 79 := in_len h79 (by decide)
  refine ev_newa (L := 79) (N := 3) dX7_init_123 (by decide) rfl (by decide) l79 (Nat.le_of_ble_eq_true rfl) (Nat.le_of_ble_eq_true rfl) ?_
  have k79 : (am_nw t79 10 3).1[65]? = some (7, 39) := am_nwK (in_65 h79 (by decide))
  refine ev_putRF dX7_init_125 fl_X7_49 fln_X7_49 rfl (by decide) (by decide) k79 ?_
  have h80 := in_S h79 (by decide) (by decide) (j := 22) (N := 3) rfl (by decide)
  change am_Ev G mX7_init (am_R (D + 5) 23 2245) 23 2245 _ 128 [(0, .ref 65)] [] (am_sR (am_fs (am_nw t79 10 3) 79 0 (in_l 79)) 65 22 (some 79)) 14 1497
  generalize am_sR (am_fs (am_nw t79 10 3) 79 0 (in_l 79)) 65 22 (some 79) = t80 at h80 ⊢
  clear h79
  refine ev_aload_n dX7_init_128 rfl rfl ?_
  refine ev_iconst (v := 4) dX7_init_129 (by decide) ?_
  have l80 : t80.1.length = 80 := in_len h80 (by decide)
  refine ev_newa (L := 80) (N := 4) dX7_init_130 (by decide) rfl (by decide) l80 (Nat.le_of_ble_eq_true rfl) (Nat.le_of_ble_eq_true rfl) ?_
  have g80 : (am_nw t80 10 4).1[80]? = some (10, 4) := by have z := am_nwL (σ := t80) (c := 10) (n := 4); rw [l80] at z; exact z
  refine ev_dup dX7_init_132 rfl ?_
  refine ev_iconst (v := 0) dX7_init_133 (by decide) ?_
  refine ev_iconst (v := (-1)) dX7_init_134 (by decide) ?_
  refine ev_iast dX7_init_135 g80 (am_ixn (j := 0) (by decide) (by decide)) ?_
  refine ev_dup dX7_init_136 rfl ?_
  refine ev_iconst (v := 1) dX7_init_137 (by decide) ?_
  refine ev_iconst (v := (-1)) dX7_init_138 (by decide) ?_
  refine ev_iast dX7_init_139 g80 (am_ixn (j := 1) (by decide) (by decide)) ?_
  refine ev_dup dX7_init_140 rfl ?_
  refine ev_iconst (v := 2) dX7_init_141 (by decide) ?_
  refine ev_iconst (v := (-1)) dX7_init_142 (by decide) ?_
  refine ev_iast dX7_init_143 g80 (am_ixn (j := 2) (by decide) (by decide)) ?_
  refine ev_dup dX7_init_144 rfl ?_
  refine ev_iconst (v := 3) dX7_init_145 (by decide) ?_
  refine ev_iconst (v := (-1)) dX7_init_146 (by decide) ?_
  refine ev_iast dX7_init_147 g80 (am_ixn (j := 3) (by decide) (by decide)) ?_
  have k80 : (am_nw t80 10 4).1[65]? = some (7, 39) := am_nwK (in_65 h80 (by decide))
  refine ev_putRF dX7_init_148 fl_X7_52 fln_X7_52 rfl (by decide) (by decide) k80 ?_
  have h81 := in_S h80 (by decide) (by decide) (j := 23) (N := 4) rfl (by decide)
  change am_Ev G mX7_init (am_R (D + 5) 23 2245) 23 2245 _ 151 [(0, .ref 65)] [] (am_sR (am_fs (am_nw t80 10 4) 80 0 (in_l 80)) 65 23 (some 80)) 15 1501
  generalize am_sR (am_fs (am_nw t80 10 4) 80 0 (in_l 80)) 65 23 (some 80) = t81 at h81 ⊢
  clear h80
  refine ev_aload_n dX7_init_151 rfl rfl ?_
  refine ev_iconst (v := 4) dX7_init_152 (by decide) ?_
  have l81 : t81.1.length = 81 := in_len h81 (by decide)
  refine ev_newa (L := 81) (N := 4) dX7_init_153 (by decide) rfl (by decide) l81 (Nat.le_of_ble_eq_true rfl) (Nat.le_of_ble_eq_true rfl) ?_
  have k81 : (am_nw t81 10 4).1[65]? = some (7, 39) := am_nwK (in_65 h81 (by decide))
  refine ev_putRF dX7_init_155 fl_X7_55 fln_X7_55 rfl (by decide) (by decide) k81 ?_
  have h82 := in_S h81 (by decide) (by decide) (j := 24) (N := 4) rfl (by decide)
  change am_Ev G mX7_init (am_R (D + 5) 23 2245) 23 2245 _ 158 [(0, .ref 65)] [] (am_sR (am_fs (am_nw t81 10 4) 81 0 (in_l 81)) 65 24 (some 81)) 16 1505
  generalize am_sR (am_fs (am_nw t81 10 4) 81 0 (in_l 81)) 65 24 (some 81) = t82 at h82 ⊢
  clear h81
  refine ev_aload_n dX7_init_158 rfl rfl ?_
  refine ev_sipush (v := 160) dX7_init_159 (by decide) ?_
  have l82 : t82.1.length = 82 := in_len h82 (by decide)
  refine ev_newa (L := 82) (N := 160) dX7_init_162 (by decide) rfl (by decide) l82 (Nat.le_of_ble_eq_true rfl) (Nat.le_of_ble_eq_true rfl) ?_
  have k82 : (am_nw t82 10 160).1[65]? = some (7, 39) := am_nwK (in_65 h82 (by decide))
  refine ev_putRF dX7_init_164 fl_X7_58 fln_X7_58 rfl (by decide) (by decide) k82 ?_
  have h83 := in_S h82 (by decide) (by decide) (j := 25) (N := 160) rfl (by decide)
  change am_Ev G mX7_init (am_R (D + 5) 23 2245) 23 2245 _ 167 [(0, .ref 65)] [] (am_sR (am_fs (am_nw t82 10 160) 82 0 (in_l 82)) 65 25 (some 82)) 17 1665
  generalize am_sR (am_fs (am_nw t82 10 160) 82 0 (in_l 82)) 65 25 (some 82) = t83 at h83 ⊢
  clear h82
  refine ev_aload_n dX7_init_167 rfl rfl ?_
  refine ev_bipush (v := 50) dX7_init_168 (by decide) ?_
  have l83 : t83.1.length = 83 := in_len h83 (by decide)
  refine ev_newa (L := 83) (N := 50) dX7_init_170 (by decide) rfl (by decide) l83 (Nat.le_of_ble_eq_true rfl) (Nat.le_of_ble_eq_true rfl) ?_
  have g83 : (am_nw t83 10 50).1[83]? = some (10, 50) := by have z := am_nwL (σ := t83) (c := 10) (n := 50); rw [l83] at z; exact z
  refine ev_dup dX7_init_172 rfl ?_
  refine ev_iconst (v := 0) dX7_init_173 (by decide) ?_
  refine ev_bipush (v := 119) dX7_init_174 (by decide) ?_
  refine ev_iast dX7_init_176 g83 (am_ixn (j := 0) (by decide) (by decide)) ?_
  refine ev_dup dX7_init_177 rfl ?_
  refine ev_iconst (v := 1) dX7_init_178 (by decide) ?_
  refine ev_bipush (v := 101) dX7_init_179 (by decide) ?_
  refine ev_iast dX7_init_181 g83 (am_ixn (j := 1) (by decide) (by decide)) ?_
  refine ev_dup dX7_init_182 rfl ?_
  refine ev_iconst (v := 2) dX7_init_183 (by decide) ?_
  refine ev_bipush (v := 105) dX7_init_184 (by decide) ?_
  refine ev_iast dX7_init_186 g83 (am_ixn (j := 2) (by decide) (by decide)) ?_
  refine ev_dup dX7_init_187 rfl ?_
  refine ev_iconst (v := 3) dX7_init_188 (by decide) ?_
  refine ev_bipush (v := 103) dX7_init_189 (by decide) ?_
  refine ev_iast dX7_init_191 g83 (am_ixn (j := 3) (by decide) (by decide)) ?_
  refine ev_dup dX7_init_192 rfl ?_
  refine ev_iconst (v := 4) dX7_init_193 (by decide) ?_
  refine ev_bipush (v := 104) dX7_init_194 (by decide) ?_
  refine ev_iast dX7_init_196 g83 (am_ixn (j := 4) (by decide) (by decide)) ?_
  refine ev_dup dX7_init_197 rfl ?_
  refine ev_iconst (v := 5) dX7_init_198 (by decide) ?_
  refine ev_bipush (v := 116) dX7_init_199 (by decide) ?_
  refine ev_iast dX7_init_201 g83 (am_ixn (j := 5) (by decide) (by decide)) ?_
  refine ev_dup dX7_init_202 rfl ?_
  refine ev_bipush (v := 6) dX7_init_203 (by decide) ?_
  refine ev_bipush (v := 32) dX7_init_205 (by decide) ?_
  refine ev_iast dX7_init_207 g83 (am_ixn (j := 6) (by decide) (by decide)) ?_
  refine ev_dup dX7_init_208 rfl ?_
  refine ev_bipush (v := 7) dX7_init_209 (by decide) ?_
  refine ev_bipush (v := 108) dX7_init_211 (by decide) ?_
  refine ev_iast dX7_init_213 g83 (am_ixn (j := 7) (by decide) (by decide)) ?_
  refine ev_dup dX7_init_214 rfl ?_
  refine ev_bipush (v := 8) dX7_init_215 (by decide) ?_
  refine ev_bipush (v := 111) dX7_init_217 (by decide) ?_
  refine ev_iast dX7_init_219 g83 (am_ixn (j := 8) (by decide) (by decide)) ?_
  refine ev_dup dX7_init_220 rfl ?_
  refine ev_bipush (v := 9) dX7_init_221 (by decide) ?_
  refine ev_bipush (v := 117) dX7_init_223 (by decide) ?_
  refine ev_iast dX7_init_225 g83 (am_ixn (j := 9) (by decide) (by decide)) ?_
  refine ev_dup dX7_init_226 rfl ?_
  refine ev_bipush (v := 10) dX7_init_227 (by decide) ?_
  refine ev_bipush (v := 100) dX7_init_229 (by decide) ?_
  refine ev_iast dX7_init_231 g83 (am_ixn (j := 10) (by decide) (by decide)) ?_
  refine ev_dup dX7_init_232 rfl ?_
  refine ev_bipush (v := 11) dX7_init_233 (by decide) ?_
  refine ev_bipush (v := 32) dX7_init_235 (by decide) ?_
  refine ev_iast dX7_init_237 g83 (am_ixn (j := 11) (by decide) (by decide)) ?_
  refine ev_dup dX7_init_238 rfl ?_
  refine ev_bipush (v := 12) dX7_init_239 (by decide) ?_
  refine ev_bipush (v := 42) dX7_init_241 (by decide) ?_
  refine ev_iast dX7_init_243 g83 (am_ixn (j := 12) (by decide) (by decide)) ?_
  refine ev_dup dX7_init_244 rfl ?_
  refine ev_bipush (v := 13) dX7_init_245 (by decide) ?_
  refine ev_bipush (v := 32) dX7_init_247 (by decide) ?_
  refine ev_iast dX7_init_249 g83 (am_ixn (j := 13) (by decide) (by decide)) ?_
  refine ev_dup dX7_init_250 rfl ?_
  refine ev_bipush (v := 14) dX7_init_251 (by decide) ?_
  refine ev_bipush (v := 50) dX7_init_253 (by decide) ?_
  refine ev_iast dX7_init_255 g83 (am_ixn (j := 14) (by decide) (by decide)) ?_
  refine ev_dup dX7_init_256 rfl ?_
  refine ev_bipush (v := 15) dX7_init_257 (by decide) ?_
  refine ev_bipush (v := 32) dX7_init_259 (by decide) ?_
  refine ev_iast dX7_init_261 g83 (am_ixn (j := 15) (by decide) (by decide)) ?_
  refine ev_dup dX7_init_262 rfl ?_
  refine ev_bipush (v := 16) dX7_init_263 (by decide) ?_
  refine ev_bipush (v := 43) dX7_init_265 (by decide) ?_
  refine ev_iast dX7_init_267 g83 (am_ixn (j := 16) (by decide) (by decide)) ?_
  refine ev_dup dX7_init_268 rfl ?_
  refine ev_bipush (v := 17) dX7_init_269 (by decide) ?_
  refine ev_bipush (v := 32) dX7_init_271 (by decide) ?_
  refine ev_iast dX7_init_273 g83 (am_ixn (j := 17) (by decide) (by decide)) ?_
  refine ev_dup dX7_init_274 rfl ?_
  refine ev_bipush (v := 18) dX7_init_275 (by decide) ?_
  refine ev_bipush (v := 100) dX7_init_277 (by decide) ?_
  refine ev_iast dX7_init_279 g83 (am_ixn (j := 18) (by decide) (by decide)) ?_
  refine ev_dup dX7_init_280 rfl ?_
  refine ev_bipush (v := 19) dX7_init_281 (by decide) ?_
  refine ev_bipush (v := 101) dX7_init_283 (by decide) ?_
  refine ev_iast dX7_init_285 g83 (am_ixn (j := 19) (by decide) (by decide)) ?_
  refine ev_dup dX7_init_286 rfl ?_
  refine ev_bipush (v := 20) dX7_init_287 (by decide) ?_
  refine ev_bipush (v := 112) dX7_init_289 (by decide) ?_
  refine ev_iast dX7_init_291 g83 (am_ixn (j := 20) (by decide) (by decide)) ?_
  refine ev_dup dX7_init_292 rfl ?_
  refine ev_bipush (v := 21) dX7_init_293 (by decide) ?_
  refine ev_bipush (v := 116) dX7_init_295 (by decide) ?_
  refine ev_iast dX7_init_297 g83 (am_ixn (j := 21) (by decide) (by decide)) ?_
  refine ev_dup dX7_init_298 rfl ?_
  refine ev_bipush (v := 22) dX7_init_299 (by decide) ?_
  refine ev_bipush (v := 104) dX7_init_301 (by decide) ?_
  refine ev_iast dX7_init_303 g83 (am_ixn (j := 22) (by decide) (by decide)) ?_
  refine ev_dup dX7_init_304 rfl ?_
  refine ev_bipush (v := 23) dX7_init_305 (by decide) ?_
  refine ev_bipush (v := 32) dX7_init_307 (by decide) ?_
  refine ev_iast dX7_init_309 g83 (am_ixn (j := 23) (by decide) (by decide)) ?_
  refine ev_dup dX7_init_310 rfl ?_
  refine ev_bipush (v := 24) dX7_init_311 (by decide) ?_
  refine ev_bipush (v := 59) dX7_init_313 (by decide) ?_
  refine ev_iast dX7_init_315 g83 (am_ixn (j := 24) (by decide) (by decide)) ?_
  refine ev_dup dX7_init_316 rfl ?_
  refine ev_bipush (v := 25) dX7_init_317 (by decide) ?_
  refine ev_bipush (v := 32) dX7_init_319 (by decide) ?_
  refine ev_iast dX7_init_321 g83 (am_ixn (j := 25) (by decide) (by decide)) ?_
  refine ev_dup dX7_init_322 rfl ?_
  refine ev_bipush (v := 26) dX7_init_323 (by decide) ?_
  refine ev_bipush (v := 112) dX7_init_325 (by decide) ?_
  refine ev_iast dX7_init_327 g83 (am_ixn (j := 26) (by decide) (by decide)) ?_
  refine ev_dup dX7_init_328 rfl ?_
  refine ev_bipush (v := 27) dX7_init_329 (by decide) ?_
  refine ev_bipush (v := 111) dX7_init_331 (by decide) ?_
  refine ev_iast dX7_init_333 g83 (am_ixn (j := 27) (by decide) (by decide)) ?_
  refine ev_dup dX7_init_334 rfl ?_
  refine ev_bipush (v := 28) dX7_init_335 (by decide) ?_
  refine ev_bipush (v := 105) dX7_init_337 (by decide) ?_
  refine ev_iast dX7_init_339 g83 (am_ixn (j := 28) (by decide) (by decide)) ?_
  refine ev_dup dX7_init_340 rfl ?_
  refine ev_bipush (v := 29) dX7_init_341 (by decide) ?_
  refine ev_bipush (v := 110) dX7_init_343 (by decide) ?_
  refine ev_iast dX7_init_345 g83 (am_ixn (j := 29) (by decide) (by decide)) ?_
  refine ev_dup dX7_init_346 rfl ?_
  refine ev_bipush (v := 30) dX7_init_347 (by decide) ?_
  refine ev_bipush (v := 116) dX7_init_349 (by decide) ?_
  refine ev_iast dX7_init_351 g83 (am_ixn (j := 30) (by decide) (by decide)) ?_
  refine ev_dup dX7_init_352 rfl ?_
  refine ev_bipush (v := 31) dX7_init_353 (by decide) ?_
  refine ev_bipush (v := 115) dX7_init_355 (by decide) ?_
  refine ev_iast dX7_init_357 g83 (am_ixn (j := 31) (by decide) (by decide)) ?_
  refine ev_dup dX7_init_358 rfl ?_
  refine ev_bipush (v := 32) dX7_init_359 (by decide) ?_
  refine ev_bipush (v := 32) dX7_init_361 (by decide) ?_
  refine ev_iast dX7_init_363 g83 (am_ixn (j := 32) (by decide) (by decide)) ?_
  refine ev_dup dX7_init_364 rfl ?_
  refine ev_bipush (v := 33) dX7_init_365 (by decide) ?_
  refine ev_bipush (v := 49) dX7_init_367 (by decide) ?_
  refine ev_iast dX7_init_369 g83 (am_ixn (j := 33) (by decide) (by decide)) ?_
  refine ev_dup dX7_init_370 rfl ?_
  refine ev_bipush (v := 34) dX7_init_371 (by decide) ?_
  refine ev_bipush (v := 32) dX7_init_373 (by decide) ?_
  refine ev_iast dX7_init_375 g83 (am_ixn (j := 34) (by decide) (by decide)) ?_
  refine ev_dup dX7_init_376 rfl ?_
  refine ev_bipush (v := 35) dX7_init_377 (by decide) ?_
  refine ev_bipush (v := 59) dX7_init_379 (by decide) ?_
  refine ev_iast dX7_init_381 g83 (am_ixn (j := 35) (by decide) (by decide)) ?_
  refine ev_dup dX7_init_382 rfl ?_
  refine ev_bipush (v := 36) dX7_init_383 (by decide) ?_
  refine ev_bipush (v := 32) dX7_init_385 (by decide) ?_
  refine ev_iast dX7_init_387 g83 (am_ixn (j := 36) (by decide) (by decide)) ?_
  refine ev_dup dX7_init_388 rfl ?_
  refine ev_bipush (v := 37) dX7_init_389 (by decide) ?_
  refine ev_bipush (v := 104) dX7_init_391 (by decide) ?_
  refine ev_iast dX7_init_393 g83 (am_ixn (j := 37) (by decide) (by decide)) ?_
  refine ev_dup dX7_init_394 rfl ?_
  refine ev_bipush (v := 38) dX7_init_395 (by decide) ?_
  refine ev_bipush (v := 105) dX7_init_397 (by decide) ?_
  refine ev_iast dX7_init_399 g83 (am_ixn (j := 38) (by decide) (by decide)) ?_
  refine ev_dup dX7_init_400 rfl ?_
  refine ev_bipush (v := 39) dX7_init_401 (by decide) ?_
  refine ev_bipush (v := 114) dX7_init_403 (by decide) ?_
  refine ev_iast dX7_init_405 g83 (am_ixn (j := 39) (by decide) (by decide)) ?_
  refine ev_dup dX7_init_406 rfl ?_
  refine ev_bipush (v := 40) dX7_init_407 (by decide) ?_
  refine ev_bipush (v := 101) dX7_init_409 (by decide) ?_
  refine ev_iast dX7_init_411 g83 (am_ixn (j := 40) (by decide) (by decide)) ?_
  refine ev_dup dX7_init_412 rfl ?_
  refine ev_bipush (v := 41) dX7_init_413 (by decide) ?_
  refine ev_bipush (v := 115) dX7_init_415 (by decide) ?_
  refine ev_iast dX7_init_417 g83 (am_ixn (j := 41) (by decide) (by decide)) ?_
  refine ev_dup dX7_init_418 rfl ?_
  refine ev_bipush (v := 42) dX7_init_419 (by decide) ?_
  refine ev_bipush (v := 32) dX7_init_421 (by decide) ?_
  refine ev_iast dX7_init_423 g83 (am_ixn (j := 42) (by decide) (by decide)) ?_
  refine ev_dup dX7_init_424 rfl ?_
  refine ev_bipush (v := 43) dX7_init_425 (by decide) ?_
  refine ev_bipush (v := 100) dX7_init_427 (by decide) ?_
  refine ev_iast dX7_init_429 g83 (am_ixn (j := 43) (by decide) (by decide)) ?_
  refine ev_dup dX7_init_430 rfl ?_
  refine ev_bipush (v := 44) dX7_init_431 (by decide) ?_
  refine ev_bipush (v := 101) dX7_init_433 (by decide) ?_
  refine ev_iast dX7_init_435 g83 (am_ixn (j := 44) (by decide) (by decide)) ?_
  refine ev_dup dX7_init_436 rfl ?_
  refine ev_bipush (v := 45) dX7_init_437 (by decide) ?_
  refine ev_bipush (v := 112) dX7_init_439 (by decide) ?_
  refine ev_iast dX7_init_441 g83 (am_ixn (j := 45) (by decide) (by decide)) ?_
  refine ev_dup dX7_init_442 rfl ?_
  refine ev_bipush (v := 46) dX7_init_443 (by decide) ?_
  refine ev_bipush (v := 116) dX7_init_445 (by decide) ?_
  refine ev_iast dX7_init_447 g83 (am_ixn (j := 46) (by decide) (by decide)) ?_
  refine ev_dup dX7_init_448 rfl ?_
  refine ev_bipush (v := 47) dX7_init_449 (by decide) ?_
  refine ev_bipush (v := 104) dX7_init_451 (by decide) ?_
  refine ev_iast dX7_init_453 g83 (am_ixn (j := 47) (by decide) (by decide)) ?_
  refine ev_dup dX7_init_454 rfl ?_
  refine ev_bipush (v := 48) dX7_init_455 (by decide) ?_
  refine ev_bipush (v := 32) dX7_init_457 (by decide) ?_
  refine ev_iast dX7_init_459 g83 (am_ixn (j := 48) (by decide) (by decide)) ?_
  refine ev_dup dX7_init_460 rfl ?_
  refine ev_bipush (v := 49) dX7_init_461 (by decide) ?_
  refine ev_bipush (v := 59) dX7_init_463 (by decide) ?_
  refine ev_iast dX7_init_465 g83 (am_ixn (j := 49) (by decide) (by decide)) ?_
  have k83 : (am_nw t83 10 50).1[65]? = some (7, 39) := am_nwK (in_65 h83 (by decide))
  refine ev_putRF dX7_init_466 fl_X7_61 fln_X7_61 rfl (by decide) (by decide) k83 ?_
  have h84 := in_S h83 (by decide) (by decide) (j := 26) (N := 50) rfl (by decide)
  change am_Ev G mX7_init (am_R (D + 5) 23 2245) 23 2245 _ 469 [(0, .ref 65)] [] (am_sR (am_fs (am_nw t83 10 50) 83 0 (in_l 83)) 65 26 (some 83)) 18 1715
  generalize am_sR (am_fs (am_nw t83 10 50) 83 0 (in_l 83)) 65 26 (some 83) = t84 at h84 ⊢
  clear h83
  refine ev_aload_n dX7_init_469 rfl rfl ?_
  refine ev_bipush (v := 96) dX7_init_470 (by decide) ?_
  have l84 : t84.1.length = 84 := in_len h84 (by decide)
  refine ev_newa (L := 84) (N := 96) dX7_init_472 (by decide) rfl (by decide) l84 (Nat.le_of_ble_eq_true rfl) (Nat.le_of_ble_eq_true rfl) ?_
  have g84 : (am_nw t84 10 96).1[84]? = some (10, 96) := by have z := am_nwL (σ := t84) (c := 10) (n := 96); rw [l84] at z; exact z
  refine ev_dup dX7_init_474 rfl ?_
  refine ev_iconst (v := 0) dX7_init_475 (by decide) ?_
  refine ev_bipush (v := 119) dX7_init_476 (by decide) ?_
  refine ev_iast dX7_init_478 g84 (am_ixn (j := 0) (by decide) (by decide)) ?_
  refine ev_dup dX7_init_479 rfl ?_
  refine ev_iconst (v := 1) dX7_init_480 (by decide) ?_
  refine ev_bipush (v := 101) dX7_init_481 (by decide) ?_
  refine ev_iast dX7_init_483 g84 (am_ixn (j := 1) (by decide) (by decide)) ?_
  refine ev_dup dX7_init_484 rfl ?_
  refine ev_iconst (v := 2) dX7_init_485 (by decide) ?_
  refine ev_bipush (v := 105) dX7_init_486 (by decide) ?_
  refine ev_iast dX7_init_488 g84 (am_ixn (j := 2) (by decide) (by decide)) ?_
  refine ev_dup dX7_init_489 rfl ?_
  refine ev_iconst (v := 3) dX7_init_490 (by decide) ?_
  refine ev_bipush (v := 103) dX7_init_491 (by decide) ?_
  refine ev_iast dX7_init_493 g84 (am_ixn (j := 3) (by decide) (by decide)) ?_
  refine ev_dup dX7_init_494 rfl ?_
  refine ev_iconst (v := 4) dX7_init_495 (by decide) ?_
  refine ev_bipush (v := 104) dX7_init_496 (by decide) ?_
  refine ev_iast dX7_init_498 g84 (am_ixn (j := 4) (by decide) (by decide)) ?_
  refine ev_dup dX7_init_499 rfl ?_
  refine ev_iconst (v := 5) dX7_init_500 (by decide) ?_
  refine ev_bipush (v := 116) dX7_init_501 (by decide) ?_
  refine ev_iast dX7_init_503 g84 (am_ixn (j := 5) (by decide) (by decide)) ?_
  refine ev_dup dX7_init_504 rfl ?_
  refine ev_bipush (v := 6) dX7_init_505 (by decide) ?_
  refine ev_bipush (v := 32) dX7_init_507 (by decide) ?_
  refine ev_iast dX7_init_509 g84 (am_ixn (j := 6) (by decide) (by decide)) ?_
  refine ev_dup dX7_init_510 rfl ?_
  refine ev_bipush (v := 7) dX7_init_511 (by decide) ?_
  refine ev_bipush (v := 32) dX7_init_513 (by decide) ?_
  refine ev_iast dX7_init_515 g84 (am_ixn (j := 7) (by decide) (by decide)) ?_
  refine ev_dup dX7_init_516 rfl ?_
  refine ev_bipush (v := 8) dX7_init_517 (by decide) ?_
  refine ev_bipush (v := 112) dX7_init_519 (by decide) ?_
  refine ev_iast dX7_init_521 g84 (am_ixn (j := 8) (by decide) (by decide)) ?_
  refine ev_dup dX7_init_522 rfl ?_
  refine ev_bipush (v := 9) dX7_init_523 (by decide) ?_
  refine ev_bipush (v := 111) dX7_init_525 (by decide) ?_
  refine ev_iast dX7_init_527 g84 (am_ixn (j := 9) (by decide) (by decide)) ?_
  refine ev_dup dX7_init_528 rfl ?_
  refine ev_bipush (v := 10) dX7_init_529 (by decide) ?_
  refine ev_bipush (v := 105) dX7_init_531 (by decide) ?_
  refine ev_iast dX7_init_533 g84 (am_ixn (j := 10) (by decide) (by decide)) ?_
  refine ev_dup dX7_init_534 rfl ?_
  refine ev_bipush (v := 11) dX7_init_535 (by decide) ?_
  refine ev_bipush (v := 110) dX7_init_537 (by decide) ?_
  refine ev_iast dX7_init_539 g84 (am_ixn (j := 11) (by decide) (by decide)) ?_
  refine ev_dup dX7_init_540 rfl ?_
  refine ev_bipush (v := 12) dX7_init_541 (by decide) ?_
  refine ev_bipush (v := 116) dX7_init_543 (by decide) ?_
  refine ev_iast dX7_init_545 g84 (am_ixn (j := 12) (by decide) (by decide)) ?_
  refine ev_dup dX7_init_546 rfl ?_
  refine ev_bipush (v := 13) dX7_init_547 (by decide) ?_
  refine ev_bipush (v := 115) dX7_init_549 (by decide) ?_
  refine ev_iast dX7_init_551 g84 (am_ixn (j := 13) (by decide) (by decide)) ?_
  refine ev_dup dX7_init_552 rfl ?_
  refine ev_bipush (v := 14) dX7_init_553 (by decide) ?_
  refine ev_bipush (v := 32) dX7_init_555 (by decide) ?_
  refine ev_iast dX7_init_557 g84 (am_ixn (j := 14) (by decide) (by decide)) ?_
  refine ev_dup dX7_init_558 rfl ?_
  refine ev_bipush (v := 15) dX7_init_559 (by decide) ?_
  refine ev_bipush (v := 32) dX7_init_561 (by decide) ?_
  refine ev_iast dX7_init_563 g84 (am_ixn (j := 15) (by decide) (by decide)) ?_
  refine ev_dup dX7_init_564 rfl ?_
  refine ev_bipush (v := 16) dX7_init_565 (by decide) ?_
  refine ev_bipush (v := 104) dX7_init_567 (by decide) ?_
  refine ev_iast dX7_init_569 g84 (am_ixn (j := 16) (by decide) (by decide)) ?_
  refine ev_dup dX7_init_570 rfl ?_
  refine ev_bipush (v := 17) dX7_init_571 (by decide) ?_
  refine ev_bipush (v := 105) dX7_init_573 (by decide) ?_
  refine ev_iast dX7_init_575 g84 (am_ixn (j := 17) (by decide) (by decide)) ?_
  refine ev_dup dX7_init_576 rfl ?_
  refine ev_bipush (v := 18) dX7_init_577 (by decide) ?_
  refine ev_bipush (v := 114) dX7_init_579 (by decide) ?_
  refine ev_iast dX7_init_581 g84 (am_ixn (j := 18) (by decide) (by decide)) ?_
  refine ev_dup dX7_init_582 rfl ?_
  refine ev_bipush (v := 19) dX7_init_583 (by decide) ?_
  refine ev_bipush (v := 101) dX7_init_585 (by decide) ?_
  refine ev_iast dX7_init_587 g84 (am_ixn (j := 19) (by decide) (by decide)) ?_
  refine ev_dup dX7_init_588 rfl ?_
  refine ev_bipush (v := 20) dX7_init_589 (by decide) ?_
  refine ev_bipush (v := 115) dX7_init_591 (by decide) ?_
  refine ev_iast dX7_init_593 g84 (am_ixn (j := 20) (by decide) (by decide)) ?_
  refine ev_dup dX7_init_594 rfl ?_
  refine ev_bipush (v := 21) dX7_init_595 (by decide) ?_
  refine ev_bipush (v := 32) dX7_init_597 (by decide) ?_
  refine ev_iast dX7_init_599 g84 (am_ixn (j := 21) (by decide) (by decide)) ?_
  refine ev_dup dX7_init_600 rfl ?_
  refine ev_bipush (v := 22) dX7_init_601 (by decide) ?_
  refine ev_bipush (v := 32) dX7_init_603 (by decide) ?_
  refine ev_iast dX7_init_605 g84 (am_ixn (j := 22) (by decide) (by decide)) ?_
  refine ev_dup dX7_init_606 rfl ?_
  refine ev_bipush (v := 23) dX7_init_607 (by decide) ?_
  refine ev_bipush (v := 32) dX7_init_609 (by decide) ?_
  refine ev_iast dX7_init_611 g84 (am_ixn (j := 23) (by decide) (by decide)) ?_
  refine ev_dup dX7_init_612 rfl ?_
  refine ev_bipush (v := 24) dX7_init_613 (by decide) ?_
  refine ev_bipush (v := 100) dX7_init_615 (by decide) ?_
  refine ev_iast dX7_init_617 g84 (am_ixn (j := 24) (by decide) (by decide)) ?_
  refine ev_dup dX7_init_618 rfl ?_
  refine ev_bipush (v := 25) dX7_init_619 (by decide) ?_
  refine ev_bipush (v := 101) dX7_init_621 (by decide) ?_
  refine ev_iast dX7_init_623 g84 (am_ixn (j := 25) (by decide) (by decide)) ?_
  refine ev_dup dX7_init_624 rfl ?_
  refine ev_bipush (v := 26) dX7_init_625 (by decide) ?_
  refine ev_bipush (v := 112) dX7_init_627 (by decide) ?_
  refine ev_iast dX7_init_629 g84 (am_ixn (j := 26) (by decide) (by decide)) ?_
  refine ev_dup dX7_init_630 rfl ?_
  refine ev_bipush (v := 27) dX7_init_631 (by decide) ?_
  refine ev_bipush (v := 116) dX7_init_633 (by decide) ?_
  refine ev_iast dX7_init_635 g84 (am_ixn (j := 27) (by decide) (by decide)) ?_
  refine ev_dup dX7_init_636 rfl ?_
  refine ev_bipush (v := 28) dX7_init_637 (by decide) ?_
  refine ev_bipush (v := 104) dX7_init_639 (by decide) ?_
  refine ev_iast dX7_init_641 g84 (am_ixn (j := 28) (by decide) (by decide)) ?_
  refine ev_dup dX7_init_642 rfl ?_
  refine ev_bipush (v := 29) dX7_init_643 (by decide) ?_
  refine ev_bipush (v := 32) dX7_init_645 (by decide) ?_
  refine ev_iast dX7_init_647 g84 (am_ixn (j := 29) (by decide) (by decide)) ?_
  refine ev_dup dX7_init_648 rfl ?_
  refine ev_bipush (v := 30) dX7_init_649 (by decide) ?_
  refine ev_bipush (v := 32) dX7_init_651 (by decide) ?_
  refine ev_iast dX7_init_653 g84 (am_ixn (j := 30) (by decide) (by decide)) ?_
  refine ev_dup dX7_init_654 rfl ?_
  refine ev_bipush (v := 31) dX7_init_655 (by decide) ?_
  refine ev_bipush (v := 32) dX7_init_657 (by decide) ?_
  refine ev_iast dX7_init_659 g84 (am_ixn (j := 31) (by decide) (by decide)) ?_
  refine ev_dup dX7_init_660 rfl ?_
  refine ev_bipush (v := 32) dX7_init_661 (by decide) ?_
  refine ev_bipush (v := 97) dX7_init_663 (by decide) ?_
  refine ev_iast dX7_init_665 g84 (am_ixn (j := 32) (by decide) (by decide)) ?_
  refine ev_dup dX7_init_666 rfl ?_
  refine ev_bipush (v := 33) dX7_init_667 (by decide) ?_
  refine ev_bipush (v := 115) dX7_init_669 (by decide) ?_
  refine ev_iast dX7_init_671 g84 (am_ixn (j := 33) (by decide) (by decide)) ?_
  refine ev_dup dX7_init_672 rfl ?_
  refine ev_bipush (v := 34) dX7_init_673 (by decide) ?_
  refine ev_bipush (v := 107) dX7_init_675 (by decide) ?_
  refine ev_iast dX7_init_677 g84 (am_ixn (j := 34) (by decide) (by decide)) ?_
  refine ev_dup dX7_init_678 rfl ?_
  refine ev_bipush (v := 35) dX7_init_679 (by decide) ?_
  refine ev_bipush (v := 101) dX7_init_681 (by decide) ?_
  refine ev_iast dX7_init_683 g84 (am_ixn (j := 35) (by decide) (by decide)) ?_
  refine ev_dup dX7_init_684 rfl ?_
  refine ev_bipush (v := 36) dX7_init_685 (by decide) ?_
  refine ev_bipush (v := 100) dX7_init_687 (by decide) ?_
  refine ev_iast dX7_init_689 g84 (am_ixn (j := 36) (by decide) (by decide)) ?_
  refine ev_dup dX7_init_690 rfl ?_
  refine ev_bipush (v := 37) dX7_init_691 (by decide) ?_
  refine ev_bipush (v := 32) dX7_init_693 (by decide) ?_
  refine ev_iast dX7_init_695 g84 (am_ixn (j := 37) (by decide) (by decide)) ?_
  refine ev_dup dX7_init_696 rfl ?_
  refine ev_bipush (v := 38) dX7_init_697 (by decide) ?_
  refine ev_bipush (v := 32) dX7_init_699 (by decide) ?_
  refine ev_iast dX7_init_701 g84 (am_ixn (j := 38) (by decide) (by decide)) ?_
  refine ev_dup dX7_init_702 rfl ?_
  refine ev_bipush (v := 39) dX7_init_703 (by decide) ?_
  refine ev_bipush (v := 32) dX7_init_705 (by decide) ?_
  refine ev_iast dX7_init_707 g84 (am_ixn (j := 39) (by decide) (by decide)) ?_
  refine ev_dup dX7_init_708 rfl ?_
  refine ev_bipush (v := 40) dX7_init_709 (by decide) ?_
  refine ev_bipush (v := 108) dX7_init_711 (by decide) ?_
  refine ev_iast dX7_init_713 g84 (am_ixn (j := 40) (by decide) (by decide)) ?_
  refine ev_dup dX7_init_714 rfl ?_
  refine ev_bipush (v := 41) dX7_init_715 (by decide) ?_
  refine ev_bipush (v := 111) dX7_init_717 (by decide) ?_
  refine ev_iast dX7_init_719 g84 (am_ixn (j := 41) (by decide) (by decide)) ?_
  refine ev_dup dX7_init_720 rfl ?_
  refine ev_bipush (v := 42) dX7_init_721 (by decide) ?_
  refine ev_bipush (v := 117) dX7_init_723 (by decide) ?_
  refine ev_iast dX7_init_725 g84 (am_ixn (j := 42) (by decide) (by decide)) ?_
  refine ev_dup dX7_init_726 rfl ?_
  refine ev_bipush (v := 43) dX7_init_727 (by decide) ?_
  refine ev_bipush (v := 100) dX7_init_729 (by decide) ?_
  refine ev_iast dX7_init_731 g84 (am_ixn (j := 43) (by decide) (by decide)) ?_
  refine ev_dup dX7_init_732 rfl ?_
  refine ev_bipush (v := 44) dX7_init_733 (by decide) ?_
  refine ev_bipush (v := 32) dX7_init_735 (by decide) ?_
  refine ev_iast dX7_init_737 g84 (am_ixn (j := 44) (by decide) (by decide)) ?_
  refine ev_dup dX7_init_738 rfl ?_
  refine ev_bipush (v := 45) dX7_init_739 (by decide) ?_
  refine ev_bipush (v := 32) dX7_init_741 (by decide) ?_
  refine ev_iast dX7_init_743 g84 (am_ixn (j := 45) (by decide) (by decide)) ?_
  refine ev_dup dX7_init_744 rfl ?_
  refine ev_bipush (v := 46) dX7_init_745 (by decide) ?_
  refine ev_bipush (v := 32) dX7_init_747 (by decide) ?_
  refine ev_iast dX7_init_749 g84 (am_ixn (j := 46) (by decide) (by decide)) ?_
  refine ev_dup dX7_init_750 rfl ?_
  refine ev_bipush (v := 47) dX7_init_751 (by decide) ?_
  refine ev_bipush (v := 32) dX7_init_753 (by decide) ?_
  refine ev_iast dX7_init_755 g84 (am_ixn (j := 47) (by decide) (by decide)) ?_
  refine ev_dup dX7_init_756 rfl ?_
  refine ev_bipush (v := 48) dX7_init_757 (by decide) ?_
  refine ev_bipush (v := 116) dX7_init_759 (by decide) ?_
  refine ev_iast dX7_init_761 g84 (am_ixn (j := 48) (by decide) (by decide)) ?_
  refine ev_dup dX7_init_762 rfl ?_
  refine ev_bipush (v := 49) dX7_init_763 (by decide) ?_
  refine ev_bipush (v := 111) dX7_init_765 (by decide) ?_
  refine ev_iast dX7_init_767 g84 (am_ixn (j := 49) (by decide) (by decide)) ?_
  refine ev_dup dX7_init_768 rfl ?_
  refine ev_bipush (v := 50) dX7_init_769 (by decide) ?_
  refine ev_bipush (v := 112) dX7_init_771 (by decide) ?_
  refine ev_iast dX7_init_773 g84 (am_ixn (j := 50) (by decide) (by decide)) ?_
  refine ev_dup dX7_init_774 rfl ?_
  refine ev_bipush (v := 51) dX7_init_775 (by decide) ?_
  refine ev_bipush (v := 105) dX7_init_777 (by decide) ?_
  refine ev_iast dX7_init_779 g84 (am_ixn (j := 51) (by decide) (by decide)) ?_
  refine ev_dup dX7_init_780 rfl ?_
  refine ev_bipush (v := 52) dX7_init_781 (by decide) ?_
  refine ev_bipush (v := 99) dX7_init_783 (by decide) ?_
  refine ev_iast dX7_init_785 g84 (am_ixn (j := 52) (by decide) (by decide)) ?_
  refine ev_dup dX7_init_786 rfl ?_
  refine ev_bipush (v := 53) dX7_init_787 (by decide) ?_
  refine ev_bipush (v := 32) dX7_init_789 (by decide) ?_
  refine ev_iast dX7_init_791 g84 (am_ixn (j := 53) (by decide) (by decide)) ?_
  refine ev_dup dX7_init_792 rfl ?_
  refine ev_bipush (v := 54) dX7_init_793 (by decide) ?_
  refine ev_bipush (v := 32) dX7_init_795 (by decide) ?_
  refine ev_iast dX7_init_797 g84 (am_ixn (j := 54) (by decide) (by decide)) ?_
  refine ev_dup dX7_init_798 rfl ?_
  refine ev_bipush (v := 55) dX7_init_799 (by decide) ?_
  refine ev_bipush (v := 32) dX7_init_801 (by decide) ?_
  refine ev_iast dX7_init_803 g84 (am_ixn (j := 55) (by decide) (by decide)) ?_
  refine ev_dup dX7_init_804 rfl ?_
  refine ev_bipush (v := 56) dX7_init_805 (by decide) ?_
  refine ev_bipush (v := 114) dX7_init_807 (by decide) ?_
  refine ev_iast dX7_init_809 g84 (am_ixn (j := 56) (by decide) (by decide)) ?_
  refine ev_dup dX7_init_810 rfl ?_
  refine ev_bipush (v := 57) dX7_init_811 (by decide) ?_
  refine ev_bipush (v := 111) dX7_init_813 (by decide) ?_
  refine ev_iast dX7_init_815 g84 (am_ixn (j := 57) (by decide) (by decide)) ?_
  refine ev_dup dX7_init_816 rfl ?_
  refine ev_bipush (v := 58) dX7_init_817 (by decide) ?_
  refine ev_bipush (v := 117) dX7_init_819 (by decide) ?_
  refine ev_iast dX7_init_821 g84 (am_ixn (j := 58) (by decide) (by decide)) ?_
  refine ev_dup dX7_init_822 rfl ?_
  refine ev_bipush (v := 59) dX7_init_823 (by decide) ?_
  refine ev_bipush (v := 110) dX7_init_825 (by decide) ?_
  refine ev_iast dX7_init_827 g84 (am_ixn (j := 59) (by decide) (by decide)) ?_
  refine ev_dup dX7_init_828 rfl ?_
  refine ev_bipush (v := 60) dX7_init_829 (by decide) ?_
  refine ev_bipush (v := 100) dX7_init_831 (by decide) ?_
  refine ev_iast dX7_init_833 g84 (am_ixn (j := 60) (by decide) (by decide)) ?_
  refine ev_dup dX7_init_834 rfl ?_
  refine ev_bipush (v := 61) dX7_init_835 (by decide) ?_
  refine ev_bipush (v := 32) dX7_init_837 (by decide) ?_
  refine ev_iast dX7_init_839 g84 (am_ixn (j := 61) (by decide) (by decide)) ?_
  refine ev_dup dX7_init_840 rfl ?_
  refine ev_bipush (v := 62) dX7_init_841 (by decide) ?_
  refine ev_bipush (v := 32) dX7_init_843 (by decide) ?_
  refine ev_iast dX7_init_845 g84 (am_ixn (j := 62) (by decide) (by decide)) ?_
  refine ev_dup dX7_init_846 rfl ?_
  refine ev_bipush (v := 63) dX7_init_847 (by decide) ?_
  refine ev_bipush (v := 32) dX7_init_849 (by decide) ?_
  refine ev_iast dX7_init_851 g84 (am_ixn (j := 63) (by decide) (by decide)) ?_
  refine ev_dup dX7_init_852 rfl ?_
  refine ev_bipush (v := 64) dX7_init_853 (by decide) ?_
  refine ev_bipush (v := 119) dX7_init_855 (by decide) ?_
  refine ev_iast dX7_init_857 g84 (am_ixn (j := 64) (by decide) (by decide)) ?_
  refine ev_dup dX7_init_858 rfl ?_
  refine ev_bipush (v := 65) dX7_init_859 (by decide) ?_
  refine ev_bipush (v := 104) dX7_init_861 (by decide) ?_
  refine ev_iast dX7_init_863 g84 (am_ixn (j := 65) (by decide) (by decide)) ?_
  refine ev_dup dX7_init_864 rfl ?_
  refine ev_bipush (v := 66) dX7_init_865 (by decide) ?_
  refine ev_bipush (v := 111) dX7_init_867 (by decide) ?_
  refine ev_iast dX7_init_869 g84 (am_ixn (j := 66) (by decide) (by decide)) ?_
  refine ev_dup dX7_init_870 rfl ?_
  refine ev_bipush (v := 67) dX7_init_871 (by decide) ?_
  refine ev_bipush (v := 32) dX7_init_873 (by decide) ?_
  refine ev_iast dX7_init_875 g84 (am_ixn (j := 67) (by decide) (by decide)) ?_
  refine ev_dup dX7_init_876 rfl ?_
  refine ev_bipush (v := 68) dX7_init_877 (by decide) ?_
  refine ev_bipush (v := 32) dX7_init_879 (by decide) ?_
  refine ev_iast dX7_init_881 g84 (am_ixn (j := 68) (by decide) (by decide)) ?_
  refine ev_dup dX7_init_882 rfl ?_
  refine ev_bipush (v := 69) dX7_init_883 (by decide) ?_
  refine ev_bipush (v := 32) dX7_init_885 (by decide) ?_
  refine ev_iast dX7_init_887 g84 (am_ixn (j := 69) (by decide) (by decide)) ?_
  refine ev_dup dX7_init_888 rfl ?_
  refine ev_bipush (v := 70) dX7_init_889 (by decide) ?_
  refine ev_bipush (v := 32) dX7_init_891 (by decide) ?_
  refine ev_iast dX7_init_893 g84 (am_ixn (j := 70) (by decide) (by decide)) ?_
  refine ev_dup dX7_init_894 rfl ?_
  refine ev_bipush (v := 71) dX7_init_895 (by decide) ?_
  refine ev_bipush (v := 32) dX7_init_897 (by decide) ?_
  refine ev_iast dX7_init_899 g84 (am_ixn (j := 71) (by decide) (by decide)) ?_
  refine ev_dup dX7_init_900 rfl ?_
  refine ev_bipush (v := 72) dX7_init_901 (by decide) ?_
  refine ev_bipush (v := 111) dX7_init_903 (by decide) ?_
  refine ev_iast dX7_init_905 g84 (am_ixn (j := 72) (by decide) (by decide)) ?_
  refine ev_dup dX7_init_906 rfl ?_
  refine ev_bipush (v := 73) dX7_init_907 (by decide) ?_
  refine ev_bipush (v := 114) dX7_init_909 (by decide) ?_
  refine ev_iast dX7_init_911 g84 (am_ixn (j := 73) (by decide) (by decide)) ?_
  refine ev_dup dX7_init_912 rfl ?_
  refine ev_bipush (v := 74) dX7_init_913 (by decide) ?_
  refine ev_bipush (v := 32) dX7_init_915 (by decide) ?_
  refine ev_iast dX7_init_917 g84 (am_ixn (j := 74) (by decide) (by decide)) ?_
  refine ev_dup dX7_init_918 rfl ?_
  refine ev_bipush (v := 75) dX7_init_919 (by decide) ?_
  refine ev_bipush (v := 32) dX7_init_921 (by decide) ?_
  refine ev_iast dX7_init_923 g84 (am_ixn (j := 75) (by decide) (by decide)) ?_
  refine ev_dup dX7_init_924 rfl ?_
  refine ev_bipush (v := 76) dX7_init_925 (by decide) ?_
  refine ev_bipush (v := 32) dX7_init_927 (by decide) ?_
  refine ev_iast dX7_init_929 g84 (am_ixn (j := 76) (by decide) (by decide)) ?_
  refine ev_dup dX7_init_930 rfl ?_
  refine ev_bipush (v := 77) dX7_init_931 (by decide) ?_
  refine ev_bipush (v := 32) dX7_init_933 (by decide) ?_
  refine ev_iast dX7_init_935 g84 (am_ixn (j := 77) (by decide) (by decide)) ?_
  refine ev_dup dX7_init_936 rfl ?_
  refine ev_bipush (v := 78) dX7_init_937 (by decide) ?_
  refine ev_bipush (v := 32) dX7_init_939 (by decide) ?_
  refine ev_iast dX7_init_941 g84 (am_ixn (j := 78) (by decide) (by decide)) ?_
  refine ev_dup dX7_init_942 rfl ?_
  refine ev_bipush (v := 79) dX7_init_943 (by decide) ?_
  refine ev_bipush (v := 32) dX7_init_945 (by decide) ?_
  refine ev_iast dX7_init_947 g84 (am_ixn (j := 79) (by decide) (by decide)) ?_
  refine ev_dup dX7_init_948 rfl ?_
  refine ev_bipush (v := 80) dX7_init_949 (by decide) ?_
  refine ev_bipush (v := 97) dX7_init_951 (by decide) ?_
  refine ev_iast dX7_init_953 g84 (am_ixn (j := 80) (by decide) (by decide)) ?_
  refine ev_dup dX7_init_954 rfl ?_
  refine ev_bipush (v := 81) dX7_init_955 (by decide) ?_
  refine ev_bipush (v := 110) dX7_init_957 (by decide) ?_
  refine ev_iast dX7_init_959 g84 (am_ixn (j := 81) (by decide) (by decide)) ?_
  refine ev_dup dX7_init_960 rfl ?_
  refine ev_bipush (v := 82) dX7_init_961 (by decide) ?_
  refine ev_bipush (v := 100) dX7_init_963 (by decide) ?_
  refine ev_iast dX7_init_965 g84 (am_ixn (j := 82) (by decide) (by decide)) ?_
  refine ev_dup dX7_init_966 rfl ?_
  refine ev_bipush (v := 83) dX7_init_967 (by decide) ?_
  refine ev_bipush (v := 32) dX7_init_969 (by decide) ?_
  refine ev_iast dX7_init_971 g84 (am_ixn (j := 83) (by decide) (by decide)) ?_
  refine ev_dup dX7_init_972 rfl ?_
  refine ev_bipush (v := 84) dX7_init_973 (by decide) ?_
  refine ev_bipush (v := 32) dX7_init_975 (by decide) ?_
  refine ev_iast dX7_init_977 g84 (am_ixn (j := 84) (by decide) (by decide)) ?_
  refine ev_dup dX7_init_978 rfl ?_
  refine ev_bipush (v := 85) dX7_init_979 (by decide) ?_
  refine ev_bipush (v := 32) dX7_init_981 (by decide) ?_
  refine ev_iast dX7_init_983 g84 (am_ixn (j := 85) (by decide) (by decide)) ?_
  refine ev_dup dX7_init_984 rfl ?_
  refine ev_bipush (v := 86) dX7_init_985 (by decide) ?_
  refine ev_bipush (v := 32) dX7_init_987 (by decide) ?_
  refine ev_iast dX7_init_989 g84 (am_ixn (j := 86) (by decide) (by decide)) ?_
  refine ev_dup dX7_init_990 rfl ?_
  refine ev_bipush (v := 87) dX7_init_991 (by decide) ?_
  refine ev_bipush (v := 32) dX7_init_993 (by decide) ?_
  refine ev_iast dX7_init_995 g84 (am_ixn (j := 87) (by decide) (by decide)) ?_
  refine ev_dup dX7_init_996 rfl ?_
  refine ev_bipush (v := 88) dX7_init_997 (by decide) ?_
  refine ev_bipush (v := 110) dX7_init_999 (by decide) ?_
  refine ev_iast dX7_init_1001 g84 (am_ixn (j := 88) (by decide) (by decide)) ?_
  refine ev_dup dX7_init_1002 rfl ?_
  refine ev_bipush (v := 89) dX7_init_1003 (by decide) ?_
  refine ev_bipush (v := 111) dX7_init_1005 (by decide) ?_
  refine ev_iast dX7_init_1007 g84 (am_ixn (j := 89) (by decide) (by decide)) ?_
  refine ev_dup dX7_init_1008 rfl ?_
  refine ev_bipush (v := 90) dX7_init_1009 (by decide) ?_
  refine ev_bipush (v := 116) dX7_init_1011 (by decide) ?_
  refine ev_iast dX7_init_1013 g84 (am_ixn (j := 90) (by decide) (by decide)) ?_
  refine ev_dup dX7_init_1014 rfl ?_
  refine ev_bipush (v := 91) dX7_init_1015 (by decide) ?_
  refine ev_bipush (v := 32) dX7_init_1017 (by decide) ?_
  refine ev_iast dX7_init_1019 g84 (am_ixn (j := 91) (by decide) (by decide)) ?_
  refine ev_dup dX7_init_1020 rfl ?_
  refine ev_bipush (v := 92) dX7_init_1021 (by decide) ?_
  refine ev_bipush (v := 32) dX7_init_1023 (by decide) ?_
  refine ev_iast dX7_init_1025 g84 (am_ixn (j := 92) (by decide) (by decide)) ?_
  refine ev_dup dX7_init_1026 rfl ?_
  refine ev_bipush (v := 93) dX7_init_1027 (by decide) ?_
  refine ev_bipush (v := 32) dX7_init_1029 (by decide) ?_
  refine ev_iast dX7_init_1031 g84 (am_ixn (j := 93) (by decide) (by decide)) ?_
  refine ev_dup dX7_init_1032 rfl ?_
  refine ev_bipush (v := 94) dX7_init_1033 (by decide) ?_
  refine ev_bipush (v := 32) dX7_init_1035 (by decide) ?_
  refine ev_iast dX7_init_1037 g84 (am_ixn (j := 94) (by decide) (by decide)) ?_
  refine ev_dup dX7_init_1038 rfl ?_
  refine ev_bipush (v := 95) dX7_init_1039 (by decide) ?_
  refine ev_bipush (v := 32) dX7_init_1041 (by decide) ?_
  refine ev_iast dX7_init_1043 g84 (am_ixn (j := 95) (by decide) (by decide)) ?_
  have k84 : (am_nw t84 10 96).1[65]? = some (7, 39) := am_nwK (in_65 h84 (by decide))
  refine ev_putRF dX7_init_1044 fl_X7_64 fln_X7_64 rfl (by decide) (by decide) k84 ?_
  have h85 := in_S h84 (by decide) (by decide) (j := 31) (N := 96) rfl (by decide)
  change am_Ev G mX7_init (am_R (D + 5) 23 2245) 23 2245 _ 1047 [(0, .ref 65)] [] (am_sR (am_fs (am_nw t84 10 96) 84 0 (in_l 84)) 65 31 (some 84)) 19 1811
  generalize am_sR (am_fs (am_nw t84 10 96) 84 0 (in_l 84)) 65 31 (some 84) = t85 at h85 ⊢
  clear h84
  refine ev_aload_n dX7_init_1047 rfl rfl ?_
  refine ev_sipush (v := 200) dX7_init_1048 (by decide) ?_
  have l85 : t85.1.length = 85 := in_len h85 (by decide)
  refine ev_newa (L := 85) (N := 200) dX7_init_1051 (by decide) rfl (by decide) l85 (Nat.le_of_ble_eq_true rfl) (Nat.le_of_ble_eq_true rfl) ?_
  have k85 : (am_nw t85 10 200).1[65]? = some (7, 39) := am_nwK (in_65 h85 (by decide))
  refine ev_putRF dX7_init_1053 fl_X7_67 fln_X7_67 rfl (by decide) (by decide) k85 ?_
  have h86 := in_S h85 (by decide) (by decide) (j := 32) (N := 200) rfl (by decide)
  change am_Ev G mX7_init (am_R (D + 5) 23 2245) 23 2245 _ 1056 [(0, .ref 65)] [] (am_sR (am_fs (am_nw t85 10 200) 85 0 (in_l 85)) 65 32 (some 85)) 20 2011
  generalize am_sR (am_fs (am_nw t85 10 200) 85 0 (in_l 85)) 65 32 (some 85) = t86 at h86 ⊢
  clear h85
  refine ev_aload_n dX7_init_1056 rfl rfl ?_
  refine ev_sipush (v := 200) dX7_init_1057 (by decide) ?_
  have l86 : t86.1.length = 86 := in_len h86 (by decide)
  refine ev_newa (L := 86) (N := 200) dX7_init_1060 (by decide) rfl (by decide) l86 (Nat.le_of_ble_eq_true rfl) (Nat.le_of_ble_eq_true rfl) ?_
  have k86 : (am_nw t86 10 200).1[65]? = some (7, 39) := am_nwK (in_65 h86 (by decide))
  refine ev_putRF dX7_init_1062 fl_X7_70 fln_X7_70 rfl (by decide) (by decide) k86 ?_
  have h87 := in_S h86 (by decide) (by decide) (j := 36) (N := 200) rfl (by decide)
  change am_Ev G mX7_init (am_R (D + 5) 23 2245) 23 2245 _ 1065 [(0, .ref 65)] [] (am_sR (am_fs (am_nw t86 10 200) 86 0 (in_l 86)) 65 36 (some 86)) 21 2211
  generalize am_sR (am_fs (am_nw t86 10 200) 86 0 (in_l 86)) 65 36 (some 86) = t87 at h87 ⊢
  clear h86
  refine ev_aload_n dX7_init_1065 rfl rfl ?_
  refine ev_bipush (v := 6) dX7_init_1066 (by decide) ?_
  have l87 : t87.1.length = 87 := in_len h87 (by decide)
  refine ev_newa (L := 87) (N := 6) dX7_init_1068 (by decide) rfl (by decide) l87 (Nat.le_of_ble_eq_true rfl) (Nat.le_of_ble_eq_true rfl) ?_
  have k87 : (am_nw t87 10 6).1[65]? = some (7, 39) := am_nwK (in_65 h87 (by decide))
  refine ev_putRF dX7_init_1070 fl_X7_73 fln_X7_73 rfl (by decide) (by decide) k87 ?_
  have h88 := in_S h87 (by decide) (by decide) (j := 37) (N := 6) rfl (by decide)
  change am_Ev G mX7_init (am_R (D + 5) 23 2245) 23 2245 _ 1073 [(0, .ref 65)] [] (am_sR (am_fs (am_nw t87 10 6) 87 0 (in_l 87)) 65 37 (some 87)) 22 2217
  generalize am_sR (am_fs (am_nw t87 10 6) 87 0 (in_l 87)) 65 37 (some 87) = t88 at h88 ⊢
  clear h87
  refine ev_aload_n dX7_init_1073 rfl rfl ?_
  refine ev_bipush (v := 28) dX7_init_1074 (by decide) ?_
  have l88 : t88.1.length = 88 := in_len h88 (by decide)
  refine ev_newa (L := 88) (N := 28) dX7_init_1076 (by decide) rfl (by decide) l88 (Nat.le_of_ble_eq_true rfl) (Nat.le_of_ble_eq_true rfl) ?_
  have k88 : (am_nw t88 10 28).1[65]? = some (7, 39) := am_nwK (in_65 h88 (by decide))
  refine ev_putRF dX7_init_1078 fl_X7_76 fln_X7_76 rfl (by decide) (by decide) k88 ?_
  have h89 := in_S h88 (by decide) (by decide) (j := 38) (N := 28) rfl (by decide)
  change am_Ev G mX7_init (am_R (D + 5) 23 2245) 23 2245 _ 1081 [(0, .ref 65)] [] (am_sR (am_fs (am_nw t88 10 28) 88 0 (in_l 88)) 65 38 (some 88)) 23 2245
  generalize am_sR (am_fs (am_nw t88 10 28) 88 0 (in_l 88)) 65 38 (some 88) = t89 at h89 ⊢
  clear h88
  obtain ⟨p1, p2, p3, p4, p5⟩ := h89
  have q1 : t89.1 = ly_K := p1
  have hy : ∀ τ : am_M, τ.1 = t89.1 → τ.2.2 = t89.2.2 → ly_ok τ := fun τ e1 e2 => ⟨fun a k hk => by rw [e1, q1]; exact hk, fun i q hq => by
    have hm := List.mem_of_getElem? hq
    rw [e2]
    by_cases c : q.1 = 65
    · rw [c]; exact p2 q hm c (ly_R5 q hm).2
    · have c2 : q.1 < 65 := by have := (ly_R5 q hm).1; omega
      rw [(p3 q.1 c2).2]; exact hC q hm c2⟩
  refine ev_iconst (v := 0) dX7_init_1081 (by decide) ?_
  refine ev_istore_n (lv' := [(0, .ref 65), (1, .int 0)]) dX7_init_1082 rfl (by decide) rfl ?_
  have lp : ∀ (f : Nat) (i : Nat) (υ : am_M), i ≤ 50 → υ.1 = t89.1 → υ.2.2 = t89.2.2 → (∀ x k, x ≠ 74 → υ.2.1 x k = t89.2.1 x k) → (∀ k, υ.2.1 74 k = if k < i then b0_T k else 0) → 50 - i < f → am_Ev G mX7_init (am_R (D + 5) 23 2245) 23 2245 (fun r σ' => r = none ∧ ∃ A, ini_A A ∧ iv_M A σ' ∧ ∀ x, x < 65 → σ'.2.1 x = σ.2.1 x ∧ σ'.2.2 x = σ.2.2 x) 1083 [(0, .ref 65), (1, .int (nI i))] [] υ 23 2245 := by
    intro f
    induction f with
    | zero => intro i υ _ _ _ _ _ hf; exact absurd hf (Nat.not_lt_zero _)
    | succ f ih =>
      intro i υ hi e1 e2 e3 e4 hf
      have hyu := hy υ e1 e2
      refine ev_iload_n dX7_init_1083 rfl rfl ?_
      refine ev_bipush (v := 50) dX7_init_1084 (by decide) ?_
      refine ev_icmp_ge (tgt := 1107) dX7_init_1086 (by decide) (fun c => ?_) (fun c => ?_)
      · have ei : i = 50 := by
          have := (nI_leI (a := 50) (b := i) (by decide) (by omega)).mp c
          omega
        subst ei
        have e74 : υ.2.1 74 = b0_T := funext fun k => by
          rw [e4 k]
          by_cases c : k < 50
          · rw [if_pos c]
          · rw [if_neg c, am_g50 c]
        refine ev_aload_n dX7_init_1107 rfl rfl ?_
        refine ev_bipush (v := 50) dX7_init_1108 (by decide) ?_
        refine ev_putI dX7_init_1110 fl_X7_79 rfl rfl (ly_k hyu 65 rfl) ?_
        have v5 : ∀ k, (am_sI υ 65 11 50).2.1 65 k = if k = 11 then 50 else 0 := fun k => by
          by_cases c : k = 11
          · subst c; rw [if_pos rfl]; exact am_rs
          · rw [if_neg c]; exact (am_uk c).trans ((e3 65 k (by decide)).trans (p4 k))
        have vx : ∀ x k, x ≠ 65 → x ≠ 74 → (am_sI υ 65 11 50).2.1 x k = t89.2.1 x k := fun x k h1 h2 => (am_ua h1).trans (e3 x k h2)
        have v74 : (am_sI υ 65 11 50).2.1 74 = b0_T := funext fun k => am_ru (by omega) (congrFun e74 k)
        obtain ⟨A, hAe⟩ : ∃ A, A = (am_sI υ 65 11 50).2.1 := ⟨_, rfl⟩
        have hT : wf_T A := by
          rw [hAe]
          refine ⟨⟨?_, ?_⟩, ⟨?_, ?_⟩, fun i hi => ?_⟩
          · unfold s_tp; rw [v5 11]; decide
          · unfold s_tp; rw [v5 11]; decide
          · unfold s_nt; rw [v5 14]; decide
          · unfold s_nt; rw [v5 14]; decide
          · rw [v74]; refine b0_B i ?_; unfold s_tp at hi; rw [v5 11] at hi; exact Nat.lt_of_lt_of_le hi (by decide)
        have hW : wo_A A := fun i hi => by rw [hAe, vx 84 i (by decide) (by decide), p5 84 (by decide) (by decide)]; exact w0_W i hi
        have hI : iv_M A (am_sI υ 65 11 50) := ⟨hy _ e1 e2, fun a i _ => by rw [hAe]⟩
        refine ev_aload_n dX7_init_1113 rfl rfl ?_
        refine ev_callV (as := []) (st := []) dX7_init_1114 mfX7_text lk_X7_83 (ly_k hyu 65 rfl) (by decide) rfl (c_X7_text G D A (am_sI υ 65 11 50) hT hW hI) rfl rfl (Nat.le_of_ble_eq_true rfl) (am_hR (by omega) (by decide)) ⟨Nat.le_of_ble_eq_true rfl, Nat.le_of_ble_eq_true rfl⟩ ?_
        rintro _ σ2 ⟨A2, x, hq, rfl, hI2, hF2⟩
        refine ev_pop dX7_init_1117 rfl ?_
        refine ev_retv dX7_init_1118 rfl (Nat.le_refl _) (Nat.le_refl _) ⟨rfl, A2, ?_, hI2, fun x hx => ⟨?_, ?_⟩⟩
        · have hnt : s_nt A = 0 := by rw [hAe]; unfold s_nt; rw [v5 14]; decide
          have htp : s_tp A = 50 := by rw [hAe]; unfold s_tp; rw [v5 11]; decide
          have hn : tx_n A = lx_nx b0_T 50 := by unfold tx_n; rw [htp, hAe, v74]
          rcases hq with ⟨e, -⟩ | ⟨-, hD, ⟨e, -⟩ | ⟨-, -, e14, hK⟩⟩
          · omega
          · rw [hn, tx_0] at e; cases e
          · rw [hn] at hK
            have d1 : ∀ k, k ≠ 11 → k ≠ 14 → A2 65 k = A 65 k := fun k h1 h2 => hD.2 65 k (by omega) (by omega) (by omega)
            have d2 : ∀ a k, a ≠ 65 → a ≠ 75 → a ≠ 76 → A2 a k = A a k := fun a k h1 h2 h3 => hD.2 a k (fun z => h1 z.1) (fun z => h2 z.1) (fun z => h3 z.1)
            have d3 : ∀ a k, a ≠ 65 → a ≠ 74 → a ≠ 75 → a ≠ 76 → 66 ≤ a → a < 89 → A2 a k = (in_l a).getD k 0 := fun a k h1 h2 h3 h4 h5 h6 => by rw [d2 a k h1 h3 h4, hAe, vx a k h1 h2, p5 a h5 h6]
            refine ⟨fun k hk => ?_, by rw [e14, hnt]; rfl, funext fun k => d3 71 k (by decide) (by decide) (by decide) (by decide) (by decide) (by decide), funext fun k => d3 72 k (by decide) (by decide) (by decide) (by decide) (by decide) (by decide), fun k => (d3 73 k (by decide) (by decide) (by decide) (by decide) (by decide) (by decide)).trans (am_g3 k), funext fun k => ?_, funext fun k => d3 79 k (by decide) (by decide) (by decide) (by decide) (by decide) (by decide), fun s hs => (d3 80 s (by decide) (by decide) (by decide) (by decide) (by decide) (by decide)).trans (am_g4 s hs), fun k => d3 81 k (by decide) (by decide) (by decide) (by decide) (by decide) (by decide), fun k => d3 82 k (by decide) (by decide) (by decide) (by decide) (by decide) (by decide), fun i hi => ?_, A, hnt, hK⟩
            · by_cases c : k = 11
              · rw [c]; exact hD.1
              · rw [d1 k c hk, hAe, v5 k, if_neg c]
            · rw [d2 74 k (by decide) (by decide) (by decide), hAe, v74]
            · rw [d2 84 i (by decide) (by decide) (by decide)]; exact hW i hi
        · rw [hF2.2.2 x (by omega)]
          exact (funext fun k => vx x k (by omega) (by omega)).trans (p3 x hx).1
        · rw [hF2.2.1]
          exact (congrFun e2 x).trans (p3 x hx).2
      · have ci : i < 50 := by
          have : ¬ 50 ≤ i := fun z => c ((nI_leI (a := 50) (b := i) (by decide) (by omega)).mpr z)
          omega
        refine ev_aload_n dX7_init_1089 rfl rfl ?_
        refine ev_getR (b := 74) dX7_init_1090 fl_X7_34 (ly_k hyu 65 rfl) (ly_r hyu 37 rfl) ?_
        refine ev_iload_n dX7_init_1093 rfl rfl ?_
        refine ev_aload_n dX7_init_1094 rfl rfl ?_
        refine ev_getR (b := 83) dX7_init_1095 fl_X7_61 (ly_k hyu 65 rfl) (ly_r hyu 46 rfl) ?_
        refine ev_iload_n dX7_init_1098 rfl rfl ?_
        refine ev_iald (v := b0_T i) dX7_init_1099 (ly_k hyu 83 rfl) (am_ixn (by omega) (by decide)) ((e3 83 i (by decide)).trans (p5 83 (by decide) (by decide) i)) ?_
        refine ev_iast dX7_init_1100 (ly_k hyu 74 rfl) (am_ixn (j := i) (by omega) (by decide)) ?_
        refine ev_iinc (lv' := [(0, .ref 65), (1, .int (nI (i + 1)))]) (v := nI (i + 1)) dX7_init_1101 rfl (nI_1 _) (by decide) rfl ?_
        refine ev_goto (tgt := 1083) dX7_init_1104 (by decide) ?_
        refine ih (i + 1) _ (by omega) e1 e2 (fun x k hx => (am_ua hx).trans (e3 x k hx)) (fun k => ?_) (by omega)
        by_cases c : k = i
        · subst c
          rw [if_pos (by omega)]; exact am_us
        · refine (am_uk c).trans ?_
          rw [e4 k]
          by_cases d : k < i
          · rw [if_pos d, if_pos (by omega)]
          · rw [if_neg d, if_neg (by omega)]
  exact lp _ 0 t89 (by decide) rfl rfl (fun _ _ _ => rfl) (fun k => by rw [if_neg (Nat.not_lt_zero _)]; exact p5 74 (by decide) (by decide) k) (Nat.lt_succ_self _)
