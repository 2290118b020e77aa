/-! the class: depths kept and given back, lots -/
def wq_A (A : am_S) : Prop := A 65 0 = nI (s_np A) ∧ s_np A ≤ 7
theorem wf_A.q {A : am_S} (h : wf_A A) : wq_A A := h.1
/-- only the ints of a have changed -/
def fr_A (a : Nat) (σ σ' : am_M) : Prop := σ'.1 = σ.1 ∧ σ'.2.2 = σ.2.2 ∧ ∀ x, x ≠ a → σ'.2.1 x = σ.2.1 x
theorem fr_A.rf {a : Nat} {σ : am_M} : fr_A a σ σ := ⟨rfl, rfl, fun _ _ => rfl⟩
theorem fr_A.wr {a k : Nat} {v : Int32} {σ τ : am_M} (_ : True) (h : fr_A a σ τ) : fr_A a σ (am_sI τ a k v) := ⟨h.1, h.2.1, fun x hx => (funext fun _ => am_ua hx).trans (h.2.2 x hx)⟩
theorem fr_A.L {a : Nat} {σ τ : am_M} (h : fr_A a σ τ) (ha : a < 65) : fr_L σ τ := fun x h1 _ => h.2.2 x (by omega)
theorem fr_L.rf {σ : am_M} : fr_L σ σ := fun _ _ _ => rfl
theorem fr_L.tr {σ τ υ : am_M} (h : fr_L σ τ) (h2 : fr_L τ υ) : fr_L σ υ := fun a h3 h4 => (h2 a h3 h4).trans (h a h3 h4)
def am_qL (A : am_S) (v : Value) (σ0 : am_M) : Option Value → am_M → Prop := fun r σ' => r = some v ∧ iv_X A σ' ∧ fr_L σ0 σ'
def kd_B (A : am_S) (a : Nat) (τ : am_M) : am_S := fun x k => if x = 78 ∧ a = 51 then τ.2.1 51 k else A x k
theorem iv_X.kd {A : am_S} {σ τ : am_M} {a : Nat} (h : iv_X A σ) (ha : a = 51 ∨ a = 60) (f : fr_A a σ τ) : iv_X (kd_B A a τ) τ := by
  have eA : ∀ x, x ≠ 78 → kd_B A a τ x = A x := fun x hx => funext fun k => if_neg (fun z => hx z.1)
  have eX : ∀ x, x ≠ a → τ.2.1 x = σ.2.1 x := f.2.2
  refine h.cg f.1 f.2.1 ?_ (fun s hs => ?_) (fun g hg hk hk2 => ⟨eX g (by omega), eX (g + 1) (by omega)⟩) (fun x m hx hk hk2 => ⟨eX x (by omega), eX (x + 1) (by omega)⟩) ?_ ⟨eA _ (by decide), eA _ (by decide), eA _ (by decide), eA _ (by decide), eA _ (by decide), eA _ (by decide), eA _ (by decide)⟩ (show sN (kd_B A a τ 65 0) = sN (A 65 0) by rw [eA 65 (by decide)]) (show sN (kd_B A a τ 65 14) = sN (A 65 14) by rw [eA 65 (by decide)])
  · unfold x_F
    rw [eX 32 (by omega), eX 38 (by omega), eX 50 (by omega), eX 34 (by omega), eX 35 (by omega), eX 36 (by omega), eX 39 (by omega), eX 53 (by omega), eA 65 (by decide), eA 71 (by decide), eA 72 (by decide), eA 73 (by decide), eA 74 (by decide), eA 79 (by decide)]
    exact h.2.1
  · rw [eX (42 + 2 * s) (by omega), eX (43 + 2 * s) (by omega), eA 80 (by decide), eA 81 (by decide), eA 82 (by decide)]
    exact h.2.2.1 s hs
  · intro z p hp
    rw [eA 65 (by decide)] at z hp
    obtain ⟨u1, u2⟩ := h.2.2.2.2.2 z p hp
    rw [eX 52 (by omega), eA 77 (by decide)]
    refine ⟨u1, fun j hj => ?_⟩
    by_cases e : a = 51
    · subst e
      exact (show kd_B A 51 τ 78 (4 * p + j) = τ.2.1 51 (4 * p + j) from if_pos ⟨rfl, rfl⟩).symm
    · rw [show kd_B A a τ 78 (4 * p + j) = A 78 (4 * p + j) from if_neg (fun z => e z.2), eX 51 (by omega)]
      exact u2 j hj
def gd_B (A : am_S) (V : Nat → Int32) (i : Nat) : am_S := fun x k => if x = 70 ∧ k < 4 * s_np A ∧ k < i then V k else A x k
theorem gd_0 {A : am_S} {V : Nat → Int32} : gd_B A V 0 = A := funext fun x => funext fun k => if_neg (by omega)
theorem gd_S {A : am_S} {V : Nat → Int32} {i : Nat} (h : i < 4 * s_np A) : am_up (gd_B A V i) 70 (4 * (i / 4) + i % 4) (V i) = gd_B A V (i + 1) := by
  have e : 4 * (i / 4) + i % 4 = i := Nat.div_add_mod i 4
  rw [e]
  funext x k
  by_cases c : x = 70 ∧ k = i
  · obtain ⟨rfl, rfl⟩ := c
    rw [am_us]
    exact (if_pos ⟨rfl, h, Nat.lt_succ_self _⟩).symm
  · rw [am_un c]
    unfold gd_B
    by_cases d : x = 70 ∧ k < 4 * s_np A ∧ k < i
    · rw [if_pos d, if_pos ⟨d.1, d.2.1, by omega⟩]
    · rw [if_neg d, if_neg (fun z => d ⟨z.1, z.2.1, by omega⟩)]
theorem gd_N {A : am_S} {V : Nat → Int32} {i : Nat} (h : 4 * s_np A ≤ i) : gd_B A V i = gd_B A V (i + 1) := by
  funext x k
  unfold gd_B
  by_cases d : x = 70 ∧ k < 4 * s_np A ∧ k < i
  · rw [if_pos d, if_pos ⟨d.1, d.2.1, by omega⟩]
  · rw [if_neg d, if_neg (fun z => d ⟨z.1, z.2.1, by omega⟩)]
theorem nI_d4 : ∀ i, i < 28 → nI i / 4 = nI (i / 4) ∧ nI i - nI i / 4 * 4 = nI (i % 4) := by decide
theorem bd_id {v : Int32} (h : am_rg v 10) : am_bd v 0 9 = v := by
  obtain ⟨V, hV, rfl⟩ := h
  exact am_bd9 hV
theorem i32_as (a x y : Int32) : a + (x - y) = a + x - y := by rw [Int32.sub_eq_add_neg, Int32.sub_eq_add_neg, Int32.add_assoc]
theorem s_odY2 {A : am_S} {x : Int32} {T k : Nat} (h : s_wb A (x + nI k) = T) : s_od A x T k + 1 = s_od A x T (k + 1) := by
  show _ = s_od A x T k + if s_wb A (x + nI k) = T then 1 else 0
  rw [if_pos h]
theorem s_odN2 {A : am_S} {x : Int32} {T k : Nat} (h : ¬ s_wb A (x + nI k) = T) : s_od A x T k = s_od A x T (k + 1) := by
  show _ = s_od A x T k + if s_wb A (x + nI k) = T then 1 else 0
  rw [if_neg h, Nat.add_zero]
set_option maxHeartbeats 400000 in
set_option maxRecDepth 100000 in
theorem c_X6_personAtW (G : am_G) (D : Nat) (A : am_S) (σ : am_M) (hQ : wq_A A) (hX : iv_X A σ) (P g : Nat) (hP : P < s_np A) (hg : σ.2.2 33 P = some g) : am_Mt G D mX6_personAt [.ref 32, .int (nI P)] σ 0 0 (am_q (.ref g) σ) := by
  have b7 := hQ.2
  refine am_of moX6_personAt (Nat.le_of_ble_eq_true rfl) ?_
  show am_Ev G mX6_personAt (am_R D 0 0) 0 0 (am_q (.ref g) σ) 0 [(0, .ref 32), (1, .int (nI P))] [] σ 0 0
  refine ev_iload_n dX6_personAt_0 rfl rfl ?_
  refine ev_if_lt (tgt := 27) dX6_personAt_1 (by decide) (fun c => absurd c (nI_pos (by omega))) (fun _ => ?_)
  refine ev_iload_n dX6_personAt_4 rfl rfl ?_
  refine ev_aload_n dX6_personAt_5 rfl rfl ?_
  refine ev_getI (v := nI (s_np A)) dX6_personAt_6 fl_X6_85 (ly_k hX.ly 32 rfl) (hX.f12.trans hQ.1) ?_
  refine ev_icmp_ge (tgt := 27) dX6_personAt_9 (by decide) (fun c => absurd c (Int32.not_le.mpr (nI_lt (by omega) (by omega)))) (fun _ => ?_)
  refine ev_iload_n dX6_personAt_12 rfl rfl ?_
  refine ev_bipush (v := 7) dX6_personAt_13 (by decide) ?_
  refine ev_icmp_ge (tgt := 27) dX6_personAt_15 (by decide) (fun c => absurd c (Int32.not_le.mpr (nI_lt (a := P) (b := 7) (by omega) (by decide)))) (fun _ => ?_)
  refine ev_aload_n dX6_personAt_18 rfl rfl ?_
  refine ev_getR (b := 33) dX6_personAt_19 fl_X6_11 (ly_k hX.ly 32 rfl) (ly_r hX.ly 0 rfl) ?_
  refine ev_iload_n dX6_personAt_22 rfl rfl ?_
  refine ev_aald (r := (some g)) dX6_personAt_23 (ly_k hX.ly 33 rfl) (by decide) (am_ixn (by omega) (by decide)) hg ?_
  refine ev_goto (tgt := 28) dX6_personAt_24 (by decide) ?_
  refine ev_reta dX6_personAt_28 rfl (Nat.zero_le _) (Nat.zero_le _) ?_
  exact ⟨rfl, rfl⟩

set_option maxHeartbeats 400000 in
set_option maxRecDepth 100000 in
theorem c_X6_personAtZ (G : am_G) (D : Nat) (A : am_S) (σ : am_M) (hQ : wq_A A) (hX : iv_X A σ) (P : Nat) (hP : s_np A ≤ P) (hP2 : P < 28) : am_Mt G D mX6_personAt [.ref 32, .int (nI P)] σ 0 0 (am_q .null σ) := by
  have b7 := hQ.2
  refine am_of moX6_personAt (Nat.le_of_ble_eq_true rfl) ?_
  show am_Ev G mX6_personAt (am_R D 0 0) 0 0 (am_q .null σ) 0 [(0, .ref 32), (1, .int (nI P))] [] σ 0 0
  refine ev_iload_n dX6_personAt_0 rfl rfl ?_
  refine ev_if_lt (tgt := 27) dX6_personAt_1 (by decide) (fun c => absurd c (nI_pos (by omega))) (fun _ => ?_)
  refine ev_iload_n dX6_personAt_4 rfl rfl ?_
  refine ev_aload_n dX6_personAt_5 rfl rfl ?_
  refine ev_getI (v := nI (s_np A)) dX6_personAt_6 fl_X6_85 (ly_k hX.ly 32 rfl) (hX.f12.trans hQ.1) ?_
  refine ev_icmp_ge (tgt := 27) dX6_personAt_9 (by decide) (fun _ => ?_) (fun c => absurd ((nI_leI (by omega) (by omega)).mpr hP) c)
  refine ev_null dX6_personAt_27 ?_
  refine ev_retaN dX6_personAt_28 rfl (Nat.zero_le _) (Nat.zero_le _) ?_
  exact ⟨rfl, rfl⟩

set_option maxHeartbeats 400000 in
set_option maxRecDepth 100000 in
theorem c_X1_deepAtX (G : am_G) (D : Nat) (A : am_S) (σ : am_M) (hX : iv_X A σ) (P g : Nat) (hP : P < s_np A) (hg : σ.2.2 33 P = some g) (J : Nat) (hJ : J < 4) : am_Mt G (D + 1) mX1_deepAt [.ref g, .int (nI J)] σ 0 0 (am_q (.int (A 70 (4 * P + J))) σ) := by
  refine am_of moX1_deepAt (Nat.le_of_ble_eq_true rfl) ?_
  show am_Ev G mX1_deepAt (am_R (D + 1) 0 0) 0 0 (am_q (.int (A 70 (4 * P + J))) σ) 0 [(0, .ref g), (1, .int (nI J))] [] σ 0 0
  refine ev_iload_n dX1_deepAt_0 rfl rfl ?_
  refine ev_callSN (as := [.int (nI J)]) (st := []) dX1_deepAt_1 mfX6_isTopic lk_X1_31 (c_X6_isTopic G D σ (nI J)) rfl rfl (Nat.le_of_ble_eq_true rfl) (am_hR (by omega) (by decide)) ⟨Nat.le_refl _, Nat.le_refl _⟩ ?_
  rintro _ _ (⟨-, rfl, rfl⟩ | ⟨hn, rfl, rfl⟩)
  · skip
    refine ev_if_eq (tgt := 16) dX1_deepAt_4 (by decide) (fun c => absurd c (by decide)) (fun _ => ?_)
    refine ev_aload_n dX1_deepAt_7 rfl rfl ?_
    refine ev_getR (b := (g + 1)) dX1_deepAt_8 fl_X1_9 (hX.gk hP hg) (hX.gd hP hg) ?_
    refine ev_iload_n dX1_deepAt_11 rfl rfl ?_
    refine ev_iald (v := A 70 (4 * P + J)) dX1_deepAt_12 (hX.gl hP hg) (am_ixn (by omega) (by decide)) (hX.gj hP hg (by omega)) ?_
    refine ev_goto (tgt := 17) dX1_deepAt_13 (by decide) ?_
    refine ev_reti dX1_deepAt_17 rfl (Nat.zero_le _) (Nat.zero_le _) ?_
    exact ⟨rfl, rfl⟩
  · skip
    exact absurd ⟨J, hJ, rfl⟩ hn

set_option maxHeartbeats 400000 in
set_option maxRecDepth 100000 in
theorem c_X1_becomeDeepX (G : am_G) (D : Nat) (A : am_S) (σ : am_M) (hX : iv_X A σ) (P g : Nat) (hP : P < s_np A) (hg : σ.2.2 33 P = some g) (J : Nat) (hJ : J < 4) (v : Int32) : am_Mt G (D + 2) mX1_becomeDeep [.ref g, .int (nI J), .int v] σ 0 0 (am_qv (am_sI σ (g + 1) J (am_bd v 0 9))) := by
  refine am_of moX1_becomeDeep (Nat.le_of_ble_eq_true rfl) ?_
  show am_Ev G mX1_becomeDeep (am_R (D + 2) 0 0) 0 0 (am_qv (am_sI σ (g + 1) J (am_bd v 0 9))) 0 [(0, .ref g), (1, .int (nI J)), (2, .int v)] [] σ 0 0
  refine ev_iload_n dX1_becomeDeep_0 rfl rfl ?_
  refine ev_callSN (as := [.int (nI J)]) (st := []) dX1_becomeDeep_1 mfX6_isTopic lk_X1_31 (c_X6_isTopic G (D + 1) σ (nI J)) rfl rfl (Nat.le_of_ble_eq_true rfl) (am_hR (by omega) (by decide)) ⟨Nat.le_refl _, Nat.le_refl _⟩ ?_
  rintro _ _ (⟨-, rfl, rfl⟩ | ⟨hn, rfl, rfl⟩)
  · skip
    refine ev_if_eq (tgt := 20) dX1_becomeDeep_4 (by decide) (fun c => absurd c (by decide)) (fun _ => ?_)
    refine ev_aload_n dX1_becomeDeep_7 rfl rfl ?_
    refine ev_getR (b := (g + 1)) dX1_becomeDeep_8 fl_X1_9 (hX.gk hP hg) (hX.gd hP hg) ?_
    refine ev_iload_n dX1_becomeDeep_11 rfl rfl ?_
    refine ev_iload_n dX1_becomeDeep_12 rfl rfl ?_
    refine ev_iconst (v := 0) dX1_becomeDeep_13 (by decide) ?_
    refine ev_bipush (v := 9) dX1_becomeDeep_14 (by decide) ?_
    refine ev_callSN (as := [.int v, .int 0, .int 9]) (st := [.int (nI J), .ref (g + 1)]) dX1_becomeDeep_16 mfX6_bounded lk_X1_35 (c_X6_bounded G D σ v 0 9 (by decide)) rfl rfl (Nat.le_of_ble_eq_true rfl) (am_hR (by omega) (by decide)) ⟨Nat.le_refl _, Nat.le_refl _⟩ ?_
    rintro _ _ ⟨rfl, rfl⟩
    refine ev_iast dX1_becomeDeep_19 (hX.gl hP hg) (am_ixn (by omega) (by decide)) ?_
    refine ev_retv dX1_becomeDeep_20 rfl (Nat.zero_le _) (Nat.zero_le _) ?_
    exact ⟨rfl, rfl⟩
  · skip
    exact absurd ⟨J, hJ, rfl⟩ hn

/-- depths kept in a -/
def am_qKd (A : am_S) (a : Nat) (σ0 : am_M) : Option Value → am_M → Prop := fun r σ' => r = none ∧ fr_A a σ0 σ' ∧ ∀ p j, p < s_np A → j < 4 → σ'.2.1 a (4 * p + j) = A 70 (4 * p + j)
set_option maxHeartbeats 400000 in
set_option maxRecDepth 100000 in
theorem c_X6_keepDepths (G : am_G) (D : Nat) (A : am_S) (σ : am_M) (hQ : wq_A A) (hX : iv_X A σ) (a : Nat) (ha : a = 51 ∨ a = 60) : am_Mt G (D + 2) mX6_keepDepths [.ref 32, .ref a] σ 0 0 (am_qKd A a σ) := by
  have b7 := hQ.2
  have hka : σ.1[a]? = some (10, 28) := by rcases ha with rfl | rfl; exact ly_k hX.ly 51 rfl; exact ly_k hX.ly 60 rfl
  refine am_of moX6_keepDepths (Nat.le_of_ble_eq_true rfl) ?_
  show am_Ev G mX6_keepDepths (am_R (D + 2) 0 0) 0 0 (am_qKd A a σ) 0 [(0, .ref 32), (1, .ref a)] [] σ 0 0
  refine ev_iconst (v := 0) dX6_keepDepths_0 (by decide) ?_
  refine ev_istore_n (lv' := [(0, .ref 32), (1, .ref a), (2, .int 0)]) dX6_keepDepths_1 rfl (by decide) rfl ?_
  have lp : ∀ (f : Nat) (i : Nat) (σ1 : am_M), (i ≤ 28) → (fr_A a σ σ1) → (∀ p j, p < s_np A → j < 4 → 4 * p + j < i → σ1.2.1 a (4 * p + j) = A 70 (4 * p + j)) → 28 - i < f → am_Ev G mX6_keepDepths (am_R (D + 2) 0 0) 0 0 (am_qKd A a σ) 2 [(0, .ref 32), (1, .ref a), (2, .int (nI i))] [] σ1 0 0 := by
    intro f
    induction f with
    | zero => intro i σ1 hi hF1 hv hf; exact absurd hf (Nat.not_lt_zero _)
    | succ f ih =>
      intro i σ1 hi hF1 hv hf
      have hX1 := hX.kd ha hF1
      have hka1 : σ1.1[a]? = some (10, 28) := by rw [hF1.1]; exact hka
      refine ev_iload_n dX6_keepDepths_2 rfl rfl ?_
      refine ev_bipush (v := 28) dX6_keepDepths_3 (by decide) ?_
      refine ev_icmp_ge (tgt := 42) dX6_keepDepths_5 (by decide) (fun c1 => ?_) (fun c1 => ?_)
      · skip
        have c1n : 28 ≤ i := (nI_leI (a := 28) (b := i) (by omega) (by omega)).mp c1
        refine ev_retv dX6_keepDepths_42 rfl (Nat.zero_le _) (Nat.zero_le _) ?_
        exact ⟨rfl, hF1, fun p j hp2 hj => hv p j hp2 hj (by omega)⟩
      · skip
        have c1n : ¬ 28 ≤ i := fun zz => c1 ((nI_leI (a := 28) (b := i) (by omega) (by omega)).mpr zz)
        refine ev_iload_n dX6_keepDepths_8 rfl rfl ?_
        refine ev_aload_n dX6_keepDepths_9 rfl rfl ?_
        refine ev_alen (v := 28) dX6_keepDepths_10 hka1 (by decide) rfl ?_
        refine ev_icmp_ge (tgt := 42) dX6_keepDepths_11 (by decide) (fun c2 => ?_) (fun c2 => ?_)
        · skip
          have c2n : 28 ≤ i := (nI_leI (a := 28) (b := i) (by omega) (by omega)).mp c2
          refine ev_retv dX6_keepDepths_42 rfl (Nat.zero_le _) (Nat.zero_le _) ?_
          exact ⟨rfl, hF1, fun p j hp2 hj => hv p j hp2 hj (by omega)⟩
        · skip
          have c2n : ¬ 28 ≤ i := fun zz => c2 ((nI_leI (a := 28) (b := i) (by omega) (by omega)).mpr zz)
          refine ev_aload_n dX6_keepDepths_14 rfl rfl ?_
          refine ev_iload_n dX6_keepDepths_15 rfl rfl ?_
          refine ev_iconst (v := 4) dX6_keepDepths_16 (by decide) ?_
          refine ev_idiv (v := nI (i / 4)) dX6_keepDepths_17 (by decide) (nI_d4 i (by omega)).1 ?_
          by_cases hp : i / 4 < s_np A
          · skip
            obtain ⟨g, hg⟩ := iv_X.ge (A := (kd_B A a σ1)) hX1 (p := i / 4) hp
            have h9 := iv_X.g9 (A := (kd_B A a σ1)) hX1 (p := i / 4) hp hg
            refine ev_callV (as := [.int (nI (i / 4))]) (st := []) dX6_keepDepths_18 mfX6_personAt lk_X6_128 (ly_k hX1.ly 32 rfl) (by decide) rfl (c_X6_personAtW G (D + 1) (kd_B A a σ1) σ1 ⟨hQ.1, hQ.2⟩ hX1 (i / 4) g hp hg) rfl rfl (Nat.le_of_ble_eq_true rfl) (am_hR (by omega) (by decide)) ⟨Nat.le_refl _, Nat.le_refl _⟩ ?_
            rintro _ _ ⟨rfl, rfl⟩
            refine ev_astore_n (lv' := [(0, .ref 32), (1, .ref a), (2, .int (nI i)), (3, .ref g)]) dX6_keepDepths_21 rfl (by decide) rfl ?_
            refine ev_aload_n dX6_keepDepths_22 rfl rfl ?_
            refine ev_ifnullR dX6_keepDepths_23 ?_
            refine ev_aload_n dX6_keepDepths_26 rfl rfl ?_
            refine ev_iload_n dX6_keepDepths_27 rfl rfl ?_
            refine ev_aload_n dX6_keepDepths_28 rfl rfl ?_
            refine ev_iload_n dX6_keepDepths_29 rfl rfl ?_
            refine ev_iconst (v := 4) dX6_keepDepths_30 (by decide) ?_
            refine ev_irem (v := nI (i % 4)) dX6_keepDepths_31 (by decide) (nI_d4 i (by omega)).2 ?_
            refine ev_callV (as := [.int (nI (i % 4))]) (st := [.int (nI i), .ref a]) dX6_keepDepths_32 mfX1_deepAt lk_X6_135 (hX1.gk hp hg) (by decide) rfl (show am_Mt G _ mX1_deepAt _ σ1 0 0 (am_q (.int (A 70 (4 * (i / 4) + i % 4))) σ1) from c_X1_deepAtX G D (kd_B A a σ1) σ1 hX1 (i / 4) g hp hg (i % 4) (by omega)) rfl rfl (Nat.le_of_ble_eq_true rfl) (am_hR (by omega) (by decide)) ⟨Nat.le_refl _, Nat.le_refl _⟩ ?_
            rintro _ _ ⟨rfl, rfl⟩
            refine ev_iast dX6_keepDepths_35 hka1 (am_ixn (by omega) (by decide)) ?_
            refine ev_iinc (lv' := [(0, .ref 32), (1, .ref a), (2, .int (nI (i + 1))), (3, .ref g)]) (v := nI (i + 1)) dX6_keepDepths_36 rfl (nI_1 _) (by decide) rfl ?_
            refine ev_goto (tgt := 2) dX6_keepDepths_39 (by decide) ?_
            refine ev_keep (lv' := [(0, .ref 32), (1, .ref a), (2, .int (nI (i + 1)))]) [0, 1, 2] rfl ?_
            exact ih (i + 1) (am_sI σ1 a i (A 70 (4 * (i / 4) + i % 4))) (by omega) (fr_A.wr trivial hF1) (fun p j hp2 hj h => by by_cases e : 4 * p + j = i; (rw [e]; refine am_us.trans ?_; rw [Nat.div_add_mod]); exact (am_uk e).trans (hv p j hp2 hj (by omega))) (by omega)
          · skip
            refine ev_callV (as := [.int (nI (i / 4))]) (st := []) dX6_keepDepths_18 mfX6_personAt lk_X6_128 (ly_k hX1.ly 32 rfl) (by decide) rfl (c_X6_personAtZ G (D + 1) (kd_B A a σ1) σ1 ⟨hQ.1, hQ.2⟩ hX1 (i / 4) (Nat.not_lt.mp hp) (by omega)) rfl rfl (Nat.le_of_ble_eq_true rfl) (am_hR (by omega) (by decide)) ⟨Nat.le_refl _, Nat.le_refl _⟩ ?_
            rintro _ _ ⟨rfl, rfl⟩
            refine ev_astore_nN (lv' := [(0, .ref 32), (1, .ref a), (2, .int (nI i)), (3, .null)]) dX6_keepDepths_21 rfl (by decide) rfl ?_
            refine ev_aload_nN dX6_keepDepths_22 rfl rfl ?_
            refine ev_ifnullN (tgt := 36) dX6_keepDepths_23 (by decide) ?_
            refine ev_iinc (lv' := [(0, .ref 32), (1, .ref a), (2, .int (nI (i + 1))), (3, .null)]) (v := nI (i + 1)) dX6_keepDepths_36 rfl (nI_1 _) (by decide) rfl ?_
            refine ev_goto (tgt := 2) dX6_keepDepths_39 (by decide) ?_
            refine ev_keep (lv' := [(0, .ref 32), (1, .ref a), (2, .int (nI (i + 1)))]) [0, 1, 2] rfl ?_
            exact ih (i + 1) σ1 (by omega) hF1 (fun p j hp2 hj h => by by_cases e : 4 * p + j = i; (exfalso; exact hp (by omega)); exact hv p j hp2 hj (by omega)) (by omega)
  exact lp _ 0 σ (Nat.zero_le _) fr_A.rf (fun p j _ _ h => absurd h (Nat.not_lt_zero _)) (Nat.lt_succ_self _)

def am_qGd (B : am_S) (σ0 : am_M) : Option Value → am_M → Prop := fun r σ' => r = none ∧ iv_X B σ' ∧ fr_C σ0 σ' 
set_option maxHeartbeats 400000 in
set_option maxRecDepth 100000 in
theorem c_X6_giveDepths (G : am_G) (D : Nat) (A : am_S) (σ : am_M) (hQ : wq_A A) (hX : iv_X A σ) (a : Nat) (ha : a = 51 ∨ a = 60) (V : Nat → Int32) (hV : ∀ k, k < 4 * s_np A → σ.2.1 a k = V k ∧ am_rg (V k) 10) : am_Mt G (D + 3) mX6_giveDepths [.ref 32, .ref a] σ 0 0 (am_qGd (gd_B A V 28) σ) := by
  have b7 := hQ.2
  have hka : σ.1[a]? = some (10, 28) := by rcases ha with rfl | rfl; exact ly_k hX.ly 51 rfl; exact ly_k hX.ly 60 rfl
  refine am_of moX6_giveDepths (Nat.le_of_ble_eq_true rfl) ?_
  show am_Ev G mX6_giveDepths (am_R (D + 3) 0 0) 0 0 (am_qGd (gd_B A V 28) σ) 0 [(0, .ref 32), (1, .ref a)] [] σ 0 0
  refine ev_iconst (v := 0) dX6_giveDepths_0 (by decide) ?_
  refine ev_istore_n (lv' := [(0, .ref 32), (1, .ref a), (2, .int 0)]) dX6_giveDepths_1 rfl (by decide) rfl ?_
  have lp : ∀ (f : Nat) (i : Nat) (σ1 : am_M), (i ≤ 28) → (iv_X (gd_B A V i) σ1) → (fr_C σ σ1) → (σ1.2.1 a = σ.2.1 a) → 28 - i < f → am_Ev G mX6_giveDepths (am_R (D + 3) 0 0) 0 0 (am_qGd (gd_B A V 28) σ) 2 [(0, .ref 32), (1, .ref a), (2, .int (nI i))] [] σ1 0 0 := by
    intro f
    induction f with
    | zero => intro i σ1 hi hX1 hF1 h51 hf; exact absurd hf (Nat.not_lt_zero _)
    | succ f ih =>
      intro i σ1 hi hX1 hF1 h51 hf
      have hka1 : σ1.1[a]? = some (10, 28) := by rw [hF1.1]; exact hka
      refine ev_iload_n dX6_giveDepths_2 rfl rfl ?_
      refine ev_bipush (v := 28) dX6_giveDepths_3 (by decide) ?_
      refine ev_icmp_ge (tgt := 42) dX6_giveDepths_5 (by decide) (fun c1 => ?_) (fun c1 => ?_)
      · skip
        have c1n : 28 ≤ i := (nI_leI (a := 28) (b := i) (by omega) (by omega)).mp c1
        refine ev_retv dX6_giveDepths_42 rfl (Nat.zero_le _) (Nat.zero_le _) ?_
        have e : i = 28 := by omega
        subst e
        exact ⟨rfl, hX1, hF1⟩
      · skip
        have c1n : ¬ 28 ≤ i := fun zz => c1 ((nI_leI (a := 28) (b := i) (by omega) (by omega)).mpr zz)
        refine ev_iload_n dX6_giveDepths_8 rfl rfl ?_
        refine ev_aload_n dX6_giveDepths_9 rfl rfl ?_
        refine ev_alen (v := 28) dX6_giveDepths_10 hka1 (by decide) rfl ?_
        refine ev_icmp_ge (tgt := 42) dX6_giveDepths_11 (by decide) (fun c2 => ?_) (fun c2 => ?_)
        · skip
          have c2n : 28 ≤ i := (nI_leI (a := 28) (b := i) (by omega) (by omega)).mp c2
          refine ev_retv dX6_giveDepths_42 rfl (Nat.zero_le _) (Nat.zero_le _) ?_
          have e : i = 28 := by omega
          subst e
          exact ⟨rfl, hX1, hF1⟩
        · skip
          have c2n : ¬ 28 ≤ i := fun zz => c2 ((nI_leI (a := 28) (b := i) (by omega) (by omega)).mpr zz)
          refine ev_aload_n dX6_giveDepths_14 rfl rfl ?_
          refine ev_iload_n dX6_giveDepths_15 rfl rfl ?_
          refine ev_iconst (v := 4) dX6_giveDepths_16 (by decide) ?_
          refine ev_idiv (v := nI (i / 4)) dX6_giveDepths_17 (by decide) (nI_d4 i (by omega)).1 ?_
          by_cases hp : i / 4 < s_np A
          · skip
            obtain ⟨g, hg⟩ := iv_X.ge (A := (gd_B A V i)) hX1 (p := i / 4) hp
            have h9 := iv_X.g9 (A := (gd_B A V i)) hX1 (p := i / 4) hp hg
            refine ev_callV (as := [.int (nI (i / 4))]) (st := []) dX6_giveDepths_18 mfX6_personAt lk_X6_128 (ly_k hX1.ly 32 rfl) (by decide) rfl (c_X6_personAtW G (D + 2) (gd_B A V i) σ1 ⟨hQ.1, hQ.2⟩ hX1 (i / 4) g hp hg) rfl rfl (Nat.le_of_ble_eq_true rfl) (am_hR (by omega) (by decide)) ⟨Nat.le_refl _, Nat.le_refl _⟩ ?_
            rintro _ _ ⟨rfl, rfl⟩
            refine ev_astore_n (lv' := [(0, .ref 32), (1, .ref a), (2, .int (nI i)), (3, .ref g)]) dX6_giveDepths_21 rfl (by decide) rfl ?_
            refine ev_aload_n dX6_giveDepths_22 rfl rfl ?_
            refine ev_ifnullR dX6_giveDepths_23 ?_
            refine ev_aload_n dX6_giveDepths_26 rfl rfl ?_
            refine ev_iload_n dX6_giveDepths_27 rfl rfl ?_
            refine ev_iconst (v := 4) dX6_giveDepths_28 (by decide) ?_
            refine ev_irem (v := nI (i % 4)) dX6_giveDepths_29 (by decide) (nI_d4 i (by omega)).2 ?_
            refine ev_aload_n dX6_giveDepths_30 rfl rfl ?_
            refine ev_iload_n dX6_giveDepths_31 rfl rfl ?_
            refine ev_iald (v := V i) dX6_giveDepths_32 hka1 (am_ixn (by omega) (by decide)) ((congrFun h51 i).trans (hV i (by omega)).1) ?_
            have hbd := bd_id (hV i (by omega)).2
            refine ev_callV (as := [.int (nI (i % 4)), .int (V i)]) (st := []) dX6_giveDepths_33 mfX1_becomeDeep lk_X6_139 (hX1.gk hp hg) (by decide) rfl (by have hh := c_X1_becomeDeepX G D (gd_B A V i) σ1 hX1 (i / 4) g hp hg (i % 4) (by omega) (V i); rw [hbd] at hh; exact hh) rfl rfl (Nat.le_of_ble_eq_true rfl) (am_hR (by omega) (by decide)) ⟨Nat.le_refl _, Nat.le_refl _⟩ ?_
            rintro _ _ ⟨rfl, rfl⟩
            refine ev_iinc (lv' := [(0, .ref 32), (1, .ref a), (2, .int (nI (i + 1))), (3, .ref g)]) (v := nI (i + 1)) dX6_giveDepths_36 rfl (nI_1 _) (by decide) rfl ?_
            refine ev_goto (tgt := 2) dX6_giveDepths_39 (by decide) ?_
            refine ev_keep (lv' := [(0, .ref 32), (1, .ref a), (2, .int (nI (i + 1)))]) [0, 1, 2] rfl ?_
            exact ih (i + 1) (am_sI σ1 (g + 1) (i % 4) (V i)) (by omega) (by rw [← gd_S (by omega)]; exact iv_X.w70 (A := (gd_B A V i)) (P := i / 4) hp hg (by omega) hX1) (fr_C.wr (by omega) hF1) ((funext fun _ => am_ua (by omega)).trans h51) (by omega)
          · skip
            refine ev_callV (as := [.int (nI (i / 4))]) (st := []) dX6_giveDepths_18 mfX6_personAt lk_X6_128 (ly_k hX1.ly 32 rfl) (by decide) rfl (c_X6_personAtZ G (D + 2) (gd_B A V i) σ1 ⟨hQ.1, hQ.2⟩ hX1 (i / 4) (Nat.not_lt.mp hp) (by omega)) rfl rfl (Nat.le_of_ble_eq_true rfl) (am_hR (by omega) (by decide)) ⟨Nat.le_refl _, Nat.le_refl _⟩ ?_
            rintro _ _ ⟨rfl, rfl⟩
            refine ev_astore_nN (lv' := [(0, .ref 32), (1, .ref a), (2, .int (nI i)), (3, .null)]) dX6_giveDepths_21 rfl (by decide) rfl ?_
            refine ev_aload_nN dX6_giveDepths_22 rfl rfl ?_
            refine ev_ifnullN (tgt := 36) dX6_giveDepths_23 (by decide) ?_
            refine ev_iinc (lv' := [(0, .ref 32), (1, .ref a), (2, .int (nI (i + 1))), (3, .null)]) (v := nI (i + 1)) dX6_giveDepths_36 rfl (nI_1 _) (by decide) rfl ?_
            refine ev_goto (tgt := 2) dX6_giveDepths_39 (by decide) ?_
            refine ev_keep (lv' := [(0, .ref 32), (1, .ref a), (2, .int (nI (i + 1)))]) [0, 1, 2] rfl ?_
            exact ih (i + 1) σ1 (by omega) (by rw [← gd_N (by omega)]; exact hX1) hF1 h51 (by omega)
  exact lp _ 0 σ (Nat.zero_le _) (by rw [gd_0]; exact hX) fr_C.rf rfl (Nat.lt_succ_self _)

theorem gd_dr {A : am_S} {l : Int64} {p : Nat} (hp : p = s_np A) (h7 : s_np A ≤ 7) : gd_B (s_dr A l (4 * p)) (A 70) 28 = A := by
  have e : s_np (s_dr A l (4 * p)) = s_np A := congrArg sN (s_dr_x (Or.inl (by decide)))
  funext x k
  unfold gd_B
  rw [e]
  by_cases c : x = 70 ∧ k < 4 * s_np A ∧ k < 28
  · rw [if_pos c, c.1]
  · rw [if_neg c]
    exact s_dr_x (by omega)
set_option maxHeartbeats 400000 in
set_option maxRecDepth 100000 in
theorem c_X6_winnerBy (G : am_G) (D : Nat) (A : am_S) (σ : am_M) (hA : wf_A A) (hX : iv_X A σ) (seed : Int32) : am_Mt G (D + 7) mX6_winnerBy [.ref 32, .int seed] σ 0 0 (am_qL A (.int (nI (s_wb A seed))) σ) := by
  have b7 := wf_np7 hA
  have b8 := wf_nq8 hA
  have b6 := wf_nt6 hA
  have b61 := wf_nt1 hA
  have b160 := wf_tp160 hA
  have brl := wf_rlt hA
  refine am_of moX6_winnerBy (Nat.le_of_ble_eq_true rfl) ?_
  show am_Ev G mX6_winnerBy (am_R (D + 7) 0 0) 0 0 (am_qL A (.int (nI (s_wb A seed))) σ) 0 [(0, .ref 32), (1, .int seed)] [] σ 0 0
  refine ev_aload_n dX6_winnerBy_0 rfl rfl ?_
  refine ev_aload_n dX6_winnerBy_1 rfl rfl ?_
  refine ev_getR (b := 60) dX6_winnerBy_2 fl_X6_62 (ly_k hX.ly 32 rfl) (ly_r hX.ly 10 rfl) ?_
  refine ev_callV (as := [.ref 60]) (st := []) dX6_winnerBy_5 mfX6_keepDepths lk_X6_245 (ly_k hX.ly 32 rfl) (by decide) rfl (c_X6_keepDepths G (D + 4) A σ hA.q hX 60 (Or.inr rfl)) rfl rfl (Nat.le_of_ble_eq_true rfl) (am_hR (by omega) (by decide)) ⟨Nat.le_refl _, Nat.le_refl _⟩ ?_
  rintro _ σk ⟨rfl, hK, hv⟩
  have hXk : iv_X A σk := by have z := hX.kd (Or.inr rfl) hK; rw [show kd_B A 60 σk = A from funext fun x => funext fun k => if_neg (fun z => absurd z.2 (by decide))] at z; exact z
  have hL : fr_L σ σk := hK.L (by decide)
  have h60 : ∀ k, k < 4 * s_np A → σk.2.1 60 k = A 70 k := fun k hk => by have z := hv (k / 4) (k % 4) (by omega) (by omega); rw [Nat.div_add_mod] at z; exact z
  refine ev_iload_n dX6_winnerBy_8 rfl rfl ?_
  refine ev_i2l (v := (seed : Int32).toInt64) dX6_winnerBy_9 rfl ?_
  refine ev_lconst (v := 1) dX6_winnerBy_10 (by decide) ?_
  refine ev_ladd (v := ((seed : Int32).toInt64) + 1) dX6_winnerBy_11 rfl ?_
  refine ev_lstore_n (lv' := [(0, .ref 32), (1, .int seed), (2, .long (((seed : Int32).toInt64) + 1))]) dX6_winnerBy_12 rfl (by decide) rfl ?_
  refine ev_iconst (v := 0) dX6_winnerBy_13 (by decide) ?_
  refine ev_istore (lv' := [(0, .ref 32), (1, .int seed), (2, .long (((seed : Int32).toInt64) + 1)), (4, .int 0)]) dX6_winnerBy_14 (by decide) rfl ?_
  have lp : ∀ (f : Nat) (p : Nat) (τ1 : am_M), (p ≤ s_np A) → (iv_X (s_dr A (seed.toInt64 + 1) (4 * p)) τ1) → (fr_C σk τ1) → (∀ k, k < 4 * s_np A → τ1.2.1 60 k = A 70 k) → s_np A - p < f → am_Ev G mX6_winnerBy (am_R (D + 7) 0 0) 0 0 (am_qL A (.int (nI (s_wb A seed))) σ) 16 [(0, .ref 32), (1, .int seed), (2, .long (s_lk (seed.toInt64 + 1) (4 * p))), (4, .int (nI p))] [] τ1 0 0 := by
    intro f
    induction f with
    | zero => intro p τ1 hp hX1 hF1 h601 hf; exact absurd hf (Nat.not_lt_zero _)
    | succ f ih =>
      intro p τ1 hp hX1 hF1 h601 hf
      refine ev_iload dX6_winnerBy_16 rfl ?_
      refine ev_aload_n dX6_winnerBy_18 rfl rfl ?_
      refine ev_getI (v := nI (s_np A)) dX6_winnerBy_19 fl_X6_85 (ly_k hX1.ly 32 rfl) (hX1.f12.trans ((s_dr_x (Or.inl (by decide))).trans (wf_np hA))) ?_
      refine ev_icmp_ge (tgt := 96) dX6_winnerBy_22 (by decide) (fun c2 => ?_) (fun c2 => ?_)
      · skip
        have c2n : (s_np A) ≤ p := (nI_leI (a := (s_np A)) (b := p) (by omega) (by omega)).mp c2
        have hpe : p = s_np A := by omega
        refine ev_aload_n dX6_winnerBy_96 rfl rfl ?_
        refine ev_callV (as := []) (st := []) dX6_winnerBy_97 mfX6_reckon lk_X6_164 (ly_k hX1.ly 32 rfl) (by decide) rfl (c_X6_reckon G (D + 2) (s_dr A (seed.toInt64 + 1) (4 * p)) τ1 (wf_dr hA (4 * p)) hX1 ) rfl rfl (Nat.le_of_ble_eq_true rfl) (am_hR (by omega) (by decide)) ⟨Nat.le_refl _, Nat.le_refl _⟩ ?_
        rintro _ σ3 ⟨rfl, hX3, hF3, hc3, hr3⟩
        refine ev_aload_n dX6_winnerBy_100 rfl rfl ?_
        refine ev_callV (as := []) (st := []) dX6_winnerBy_101 mfX6_winner lk_X6_183 (ly_k hX3.ly 32 rfl) (by decide) rfl (c_X6_winner G (D + 4) (s_dr A (seed.toInt64 + 1) (4 * p)) σ3 (wf_dr hA (4 * p)) hX3 hc3 hr3) rfl rfl (Nat.le_of_ble_eq_true rfl) (am_hR (by omega) (by decide)) ⟨Nat.le_refl _, Nat.le_refl _⟩ ?_
        rintro _ _ ⟨rfl, rfl⟩
        refine ev_istore (lv' := [(0, .ref 32), (1, .int seed), (2, .long (s_lk (seed.toInt64 + 1) (4 * p))), (4, .int (nI (s_wn (s_dr A (seed.toInt64 + 1) (4 * p)))))]) dX6_winnerBy_104 (by decide) rfl ?_
        refine ev_aload_n dX6_winnerBy_106 rfl rfl ?_
        refine ev_aload_n dX6_winnerBy_107 rfl rfl ?_
        refine ev_getR (b := 60) dX6_winnerBy_108 fl_X6_62 (ly_k hX3.ly 32 rfl) (ly_r hX3.ly 10 rfl) ?_
        have h60z : ∀ k, k < 4 * s_np (s_dr A (seed.toInt64 + 1) (4 * p)) → σ3.2.1 60 k = A 70 k ∧ am_rg (A 70 k) 10 := fun k hk => by
          rw [show s_np (s_dr A (seed.toInt64 + 1) (4 * p)) = s_np A from congrArg sN (s_dr_x (Or.inl (by decide)))] at hk
          have z := (wf_pp hA (k / 4) (by omega)).2.2.2.2 (k % 4) (by omega)
          rw [Nat.div_add_mod] at z
          exact ⟨(congrFun (hF3.2.2 60 (Or.inl rfl) (by decide)) k).trans (h601 k hk), z⟩
        refine ev_callV (as := [.ref 60]) (st := []) dX6_winnerBy_111 mfX6_giveDepths lk_X6_265 (ly_k hX3.ly 32 rfl) (by decide) rfl (c_X6_giveDepths G (D + 3) (s_dr A (seed.toInt64 + 1) (4 * p)) σ3 (wf_dr hA (4 * p)).q hX3 60 (Or.inr rfl) (A 70) h60z) rfl rfl (Nat.le_of_ble_eq_true rfl) (am_hR (by omega) (by decide)) ⟨Nat.le_refl _, Nat.le_refl _⟩ ?_
        rintro _ σ4 ⟨rfl, hZ4, hF4⟩
        have hX4 : iv_X A σ4 := by rw [gd_dr hpe b7] at hZ4; exact hZ4
        have hFz : fr_L σ σ4 := hL.tr (fr_C.L (fr_C.tr (fr_C.tr hF1 hF3) hF4))
        refine ev_iload dX6_winnerBy_114 rfl ?_
        refine ev_reti dX6_winnerBy_116 rfl (Nat.zero_le _) (Nat.zero_le _) ?_
        exact ⟨by unfold s_wb; rw [← hpe], hX4, hFz⟩
      · skip
        have c2n : ¬ (s_np A) ≤ p := fun zz => c2 ((nI_leI (a := (s_np A)) (b := p) (by omega) (by omega)).mpr zz)
        refine ev_aload_n dX6_winnerBy_25 rfl rfl ?_
        refine ev_iload dX6_winnerBy_26 rfl ?_
        have hpn : p < s_np A := by omega
        have hp1 : p < s_np (s_dr A (seed.toInt64 + 1) (4 * p)) := by rw [show s_np (s_dr A (seed.toInt64 + 1) (4 * p)) = s_np A from congrArg sN (s_dr_x (Or.inl (by decide)))]; exact hpn
        obtain ⟨g, hg⟩ := hX1.ge hp1
        refine ev_callV (as := [.int (nI p)]) (st := []) dX6_winnerBy_28 mfX6_personAt lk_X6_128 (ly_k hX1.ly 32 rfl) (by decide) rfl (c_X6_personAtN G (D + 6) (s_dr A (seed.toInt64 + 1) (4 * p)) τ1 (wf_dr hA (4 * p)) hX1 p g hp1 hg) rfl rfl (Nat.le_of_ble_eq_true rfl) (am_hR (by omega) (by decide)) ⟨Nat.le_refl _, Nat.le_refl _⟩ ?_
        rintro _ _ ⟨rfl, rfl⟩
        refine ev_astore (lv' := [(0, .ref 32), (1, .int seed), (2, .long (s_lk (seed.toInt64 + 1) (4 * p))), (4, .int (nI p)), (5, .ref g)]) dX6_winnerBy_31 (by decide) rfl ?_
        refine ev_iconst (v := 0) dX6_winnerBy_33 (by decide) ?_
        refine ev_istore (lv' := [(0, .ref 32), (1, .int seed), (2, .long (s_lk (seed.toInt64 + 1) (4 * p))), (4, .int (nI p)), (5, .ref g), (6, .int 0)]) dX6_winnerBy_34 (by decide) rfl ?_
        have lq : ∀ (f : Nat) (t : Nat) (τ2 : am_M), (t ≤ 4) → (iv_X (s_dr A (seed.toInt64 + 1) (4 * p + t)) τ2) → (fr_C σk τ2) → (∀ k, k < 4 * s_np A → τ2.2.1 60 k = A 70 k) → (τ2.2.2 33 p = some g) → 4 - t < f → am_Ev G mX6_winnerBy (am_R (D + 7) 0 0) 0 0 (am_qL A (.int (nI (s_wb A seed))) σ) 36 [(0, .ref 32), (1, .int seed), (2, .long (s_lk (seed.toInt64 + 1) (4 * p + t))), (4, .int (nI p)), (5, .ref g), (6, .int (nI t))] [] τ2 0 0 := by
          intro f
          induction f with
          | zero => intro t τ2 ht hX2 hF2 h602 hg2 hf; exact absurd hf (Nat.not_lt_zero _)
          | succ f ih_lq =>
            intro t τ2 ht hX2 hF2 h602 hg2 hf
            have hp2 : p < s_np (s_dr A (seed.toInt64 + 1) (4 * p + t)) := by rw [show s_np (s_dr A (seed.toInt64 + 1) (4 * p + t)) = s_np A from congrArg sN (s_dr_x (Or.inl (by decide)))]; exact hpn
            have h92 := hX2.g9 hp2 hg2
            refine ev_iload dX6_winnerBy_36 rfl ?_
            refine ev_iconst (v := 4) dX6_winnerBy_38 (by decide) ?_
            refine ev_icmp_ge (tgt := 90) dX6_winnerBy_39 (by decide) (fun c5 => ?_) (fun c5 => ?_)
            · skip
              have c5n : 4 ≤ t := (nI_leI (a := 4) (b := t) (by omega) (by omega)).mp c5
              obtain rfl : t = 4 := by omega
              refine ev_iinc (lv' := [(0, .ref 32), (1, .int seed), (2, .long (s_lk (seed.toInt64 + 1) (4 * p + 4))), (4, .int (nI (p + 1))), (5, .ref g), (6, .int (nI 4))]) (v := nI (p + 1)) dX6_winnerBy_90 rfl (nI_1 _) (by decide) rfl ?_
              refine ev_goto (tgt := 16) dX6_winnerBy_93 (by decide) ?_
              refine ev_keep (lv' := [(0, .ref 32), (1, .int seed), (2, .long (s_lk (seed.toInt64 + 1) (4 * p + 4))), (4, .int (nI (p + 1)))]) [0, 1, 2, 4] rfl ?_
              exact ih (p + 1) τ2 (by omega) hX2 hF2 h602 (by omega)
            · skip
              have c5n : ¬ 4 ≤ t := fun zz => c5 ((nI_leI (a := 4) (b := t) (by omega) (by omega)).mpr zz)
              refine ev_lload_n dX6_winnerBy_42 rfl rfl ?_
              refine ev_ldc2 dX6_winnerBy_43 ct_X6_325 ?_
              refine ev_lmul (v := (s_lk (seed.toInt64 + 1) (4 * p + t)) * 48271) dX6_winnerBy_46 rfl ?_
              refine ev_ldc2 dX6_winnerBy_47 ct_X6_327 ?_
              refine ev_lrem (v := s_lk (seed.toInt64 + 1) (4 * p + (t + 1))) dX6_winnerBy_50 (by decide) rfl ?_
              refine ev_lstore_n (lv' := [(0, .ref 32), (1, .int seed), (2, .long (s_lk (seed.toInt64 + 1) (4 * p + (t + 1)))), (4, .int (nI p)), (5, .ref g), (6, .int (nI t))]) dX6_winnerBy_51 rfl (by decide) rfl ?_
              refine ev_lload_n dX6_winnerBy_52 rfl rfl ?_
              refine ev_ldc2 dX6_winnerBy_53 ct_X6_329 ?_
              refine ev_lrem (v := (s_lk (seed.toInt64 + 1) (4 * p + (t + 1))) - (s_lk (seed.toInt64 + 1) (4 * p + (t + 1))) / 3 * 3) dX6_winnerBy_56 (by decide) rfl ?_
              refine ev_l2i (v := ((s_lk (seed.toInt64 + 1) (4 * p + (t + 1))) - (s_lk (seed.toInt64 + 1) (4 * p + (t + 1))) / 3 * 3 : Int64).toInt32) dX6_winnerBy_57 rfl ?_
              refine ev_iconst (v := 1) dX6_winnerBy_58 (by decide) ?_
              refine ev_isub (v := (((s_lk (seed.toInt64 + 1) (4 * p + (t + 1))) - (s_lk (seed.toInt64 + 1) (4 * p + (t + 1))) / 3 * 3 : Int64).toInt32) - 1) dX6_winnerBy_59 rfl ?_
              refine ev_istore (lv' := [(0, .ref 32), (1, .int seed), (2, .long (s_lk (seed.toInt64 + 1) (4 * p + (t + 1)))), (4, .int (nI p)), (5, .ref g), (6, .int (nI t)), (7, .int ((((s_lk (seed.toInt64 + 1) (4 * p + (t + 1))) - (s_lk (seed.toInt64 + 1) (4 * p + (t + 1))) / 3 * 3 : Int64).toInt32) - 1))]) dX6_winnerBy_60 (by decide) rfl ?_
              refine ev_aload dX6_winnerBy_62 rfl ?_
              refine ev_ifnullR dX6_winnerBy_64 ?_
              refine ev_aload dX6_winnerBy_67 rfl ?_
              refine ev_iload dX6_winnerBy_69 rfl ?_
              refine ev_aload dX6_winnerBy_71 rfl ?_
              refine ev_iload dX6_winnerBy_73 rfl ?_
              refine ev_callV (as := [.int (nI t)]) (st := [.int (nI t), .ref g]) dX6_winnerBy_75 mfX1_deepAt lk_X6_135 (hX2.gk hp2 hg2) (by decide) rfl (by have hh := c_X1_deepAtX G (D + 5) (s_dr A (seed.toInt64 + 1) (4 * p + t)) τ2 hX2 p g hp2 hg2 t (by omega); rw [s_dr_x (Or.inr (Nat.le_refl _))] at hh; exact hh) rfl rfl (Nat.le_of_ble_eq_true rfl) (am_hR (by omega) (by decide)) ⟨Nat.le_refl _, Nat.le_refl _⟩ ?_
              rintro _ _ ⟨rfl, rfl⟩
              refine ev_iload dX6_winnerBy_78 rfl ?_
              refine ev_iadd (v := A 70 (4 * p + t) + (s_lk (seed.toInt64 + 1) (4 * p + (t + 1)) - s_lk (seed.toInt64 + 1) (4 * p + (t + 1)) / 3 * 3).toInt32 - 1) dX6_winnerBy_80 (i32_as _ _ _) ?_
              refine ev_callV (as := [.int (nI t), .int (A 70 (4 * p + t) + (s_lk (seed.toInt64 + 1) (4 * p + (t + 1)) - s_lk (seed.toInt64 + 1) (4 * p + (t + 1)) / 3 * 3).toInt32 - 1)]) (st := []) dX6_winnerBy_81 mfX1_becomeDeep lk_X6_139 (hX2.gk hp2 hg2) (by decide) rfl (c_X1_becomeDeepX G (D + 4) (s_dr A (seed.toInt64 + 1) (4 * p + t)) τ2 hX2 p g hp2 hg2 t (by omega) (A 70 (4 * p + t) + (s_lk (seed.toInt64 + 1) (4 * p + (t + 1)) - s_lk (seed.toInt64 + 1) (4 * p + (t + 1)) / 3 * 3).toInt32 - 1)) rfl rfl (Nat.le_of_ble_eq_true rfl) (am_hR (by omega) (by decide)) ⟨Nat.le_refl _, Nat.le_refl _⟩ ?_
              rintro _ _ ⟨rfl, rfl⟩
              refine ev_iinc (lv' := [(0, .ref 32), (1, .int seed), (2, .long (s_lk (seed.toInt64 + 1) (4 * p + (t + 1)))), (4, .int (nI p)), (5, .ref g), (6, .int (nI (t + 1))), (7, .int ((((s_lk (seed.toInt64 + 1) (4 * p + (t + 1))) - (s_lk (seed.toInt64 + 1) (4 * p + (t + 1))) / 3 * 3 : Int64).toInt32) - 1))]) (v := nI (t + 1)) dX6_winnerBy_84 rfl (nI_1 _) (by decide) rfl ?_
              refine ev_goto (tgt := 36) dX6_winnerBy_87 (by decide) ?_
              refine ev_keep (lv' := [(0, .ref 32), (1, .int seed), (2, .long (s_lk (seed.toInt64 + 1) (4 * p + (t + 1)))), (4, .int (nI p)), (5, .ref g), (6, .int (nI (t + 1)))]) [0, 1, 2, 4, 5, 6] rfl ?_
              exact ih_lq (t + 1) (am_sI τ2 (g + 1) t (am_bd (A 70 (4 * p + t) + (s_lk (seed.toInt64 + 1) (4 * p + (t + 1)) - s_lk (seed.toInt64 + 1) (4 * p + (t + 1)) / 3 * 3).toInt32 - 1) 0 9)) (by omega) (show iv_X (s_dr A (seed.toInt64 + 1) (4 * p + (t + 1))) _ from iv_X.w70 hp2 hg2 (by omega) hX2) (fr_C.wr (by omega) hF2) (fun k hk => (am_ru (by omega) (h602 k hk))) hg2 (by omega)
        exact lq _ 0 τ1 (Nat.zero_le _) hX1 hF1 h601 hg (Nat.lt_succ_self _)
  exact lp _ 0 σk (Nat.zero_le _) hXk fr_C.rf h60 (Nat.lt_succ_self _)

