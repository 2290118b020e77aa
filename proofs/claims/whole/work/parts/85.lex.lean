/-! the class: the tape's tokens -/
def ty_T (σ : am_M) : Prop := σ.1[38]? = some (4, 7) ∧ σ.1[39]? = some (10, 160) ∧ σ.1[40]? = some (10, 160) ∧ σ.2.2 38 0 = some 39 ∧ σ.2.2 38 1 = some 40
/-- n bytes b on the tape -/
def tb_T (b : Nat → Int32) (n : Nat) (σ : am_M) : Prop := ty_T σ ∧ σ.2.1 38 2 = nI n ∧ n ≤ 160 ∧ ∀ i, i < n → σ.2.1 39 i = b i
def fr_K (σ σ' : am_M) : Prop := σ'.1 = σ.1 ∧ σ'.2.2 = σ.2.2 ∧ ∀ x k, ¬ ((x = 38 ∧ 3 ≤ k) ∨ x = 40) → σ'.2.1 x k = σ.2.1 x k
def fr_J (σ σ' : am_M) : Prop := σ'.1 = σ.1 ∧ σ'.2.2 = σ.2.2 ∧ ∀ x k, ¬ (x = 38 ∧ 3 ≤ k ∧ k ≤ 5) → σ'.2.1 x k = σ.2.1 x k
def fr_I (σ σ' : am_M) : Prop := σ'.1 = σ.1 ∧ σ'.2.2 = σ.2.2 ∧ ∀ x k, ¬ (x = 38 ∧ k = 3) → σ'.2.1 x k = σ.2.1 x k
theorem fr_K.rf {σ : am_M} : fr_K σ σ := ⟨rfl, rfl, fun _ _ _ => rfl⟩
theorem fr_K.wr {σ τ : am_M} {a k : Nat} {v : Int32} (ha : (a = 38 ∧ 3 ≤ k) ∨ a = 40) (h : fr_K σ τ) : fr_K σ (am_sI τ a k v) := ⟨h.1, h.2.1, fun x y hx => (am_un (by omega)).trans (h.2.2 x y hx)⟩
theorem fr_K.tr {σ τ υ : am_M} (h : fr_K σ τ) (h2 : fr_K τ υ) : fr_K σ υ := ⟨h2.1.trans h.1, h2.2.1.trans h.2.1, fun x k hx => (h2.2.2 x k hx).trans (h.2.2 x k hx)⟩
theorem fr_J.rf {σ : am_M} : fr_J σ σ := ⟨rfl, rfl, fun _ _ _ => rfl⟩
theorem fr_J.wr {σ τ : am_M} {a k : Nat} {v : Int32} (ha : a = 38 ∧ 3 ≤ k ∧ k ≤ 5) (h : fr_J σ τ) : fr_J σ (am_sI τ a k v) := ⟨h.1, h.2.1, fun x y hx => (am_un (by omega)).trans (h.2.2 x y hx)⟩
theorem fr_J.tr {σ τ υ : am_M} (h : fr_J σ τ) (h2 : fr_J τ υ) : fr_J σ υ := ⟨h2.1.trans h.1, h2.2.1.trans h.2.1, fun x k hx => (h2.2.2 x k hx).trans (h.2.2 x k hx)⟩
theorem fr_I.rf {σ : am_M} : fr_I σ σ := ⟨rfl, rfl, fun _ _ _ => rfl⟩
theorem fr_I.wr {σ τ : am_M} {a k : Nat} {v : Int32} (ha : a = 38 ∧ k = 3) (h : fr_I σ τ) : fr_I σ (am_sI τ a k v) := ⟨h.1, h.2.1, fun x y hx => (am_un (by omega)).trans (h.2.2 x y hx)⟩
theorem fr_I.tr {σ τ υ : am_M} (h : fr_I σ τ) (h2 : fr_I τ υ) : fr_I σ υ := ⟨h2.1.trans h.1, h2.2.1.trans h.2.1, fun x k hx => (h2.2.2 x k hx).trans (h.2.2 x k hx)⟩
theorem fr_I.J {σ τ : am_M} (h : fr_I σ τ) : fr_J σ τ := ⟨h.1, h.2.1, fun x k hx => h.2.2 x k (by omega)⟩
theorem fr_J.K {σ τ : am_M} (h : fr_J σ τ) : fr_K σ τ := ⟨h.1, h.2.1, fun x k hx => h.2.2 x k (by omega)⟩
theorem tb_T.K {b : Nat → Int32} {n : Nat} {σ τ : am_M} (h : tb_T b n σ) (f : fr_K σ τ) : tb_T b n τ := by
  obtain ⟨⟨a1, a2, a3, a4, a5⟩, h2, h3, h4⟩ := h
  refine ⟨⟨by rw [f.1]; exact a1, by rw [f.1]; exact a2, by rw [f.1]; exact a3, by rw [f.2.1]; exact a4, by rw [f.2.1]; exact a5⟩, (f.2.2 38 2 (by omega)).trans h2, h3, fun i hi => (f.2.2 39 i (by omega)).trans (h4 i hi)⟩
theorem ty_T.K {σ τ : am_M} (h : ty_T σ) (f : fr_K σ τ) : ty_T τ := by
  obtain ⟨a1, a2, a3, a4, a5⟩ := h
  exact ⟨by rw [f.1]; exact a1, by rw [f.1]; exact a2, by rw [f.1]; exact a3, by rw [f.2.1]; exact a4, by rw [f.2.1]; exact a5⟩
/-! words -/
def sw_M (b : Nat → Int32) (p q i : Nat) : Prop := q - p = am_Sl.getD i 0 ∧ ∀ j, j < am_Sl.getD i 0 → am_sc i j = b (p + j)
def lx_wn (i : Nat) : Nat := if i < 10 then i + 2 else i - 10
theorem lx_tab : ∀ i, 1 ≤ i ∧ i < 13 → am_Sl.getD i 0 < 8 ∧ ∀ j, j < 8 → if j < am_Sl.getD i 0 then lx_W (8 * lx_wn i + j) = am_sc i j ∧ am_sc i j ≠ 32 else lx_W (8 * lx_wn i + j) = 32 := by
  intro i hi
  rcases (show i = 1 ∨ i = 2 ∨ i = 3 ∨ i = 4 ∨ i = 5 ∨ i = 6 ∨ i = 7 ∨ i = 8 ∨ i = 9 ∨ i = 10 ∨ i = 11 ∨ i = 12 by omega) with rfl | rfl | rfl | rfl | rfl | rfl | rfl | rfl | rfl | rfl | rfl | rfl <;> decide +kernel
theorem lx_maI {b : Nat → Int32} {p q w : Nat} : ∀ {m : Nat}, lx_ma b p q w m = true ↔ ∀ i, i < m → lx_W (8 * w + i) = if p + i < q then b (p + i) else 32 := by
  intro m
  induction m with
  | zero => exact ⟨fun _ i hi => absurd hi (Nat.not_lt_zero _), fun _ => rfl⟩
  | succ m ih =>
    show (lx_ma b p q w m && decide (lx_W (8 * w + m) = if p + m < q then b (p + m) else 32)) = true ↔ _
    rw [Bool.and_eq_true, ih, decide_eq_true_eq]
    constructor
    · rintro ⟨h1, h2⟩ i hi
      rcases Nat.lt_or_ge i m with z | z
      · exact h1 i z
      · have e : i = m := by omega
        subst e; exact h2
    · intro h
      exact ⟨fun i hi => h i (by omega), h m (Nat.lt_succ_self m)⟩
theorem lx_mI {b : Nat → Int32} {p q w : Nat} : lx_m b p q w = true ↔ q - p ≤ 8 ∧ ∀ i, i < 8 → lx_W (8 * w + i) = if p + i < q then b (p + i) else 32 := by
  unfold lx_m
  rw [Bool.and_eq_true, lx_maI, decide_eq_true_eq]
theorem sw_m {b : Nat → Int32} {p q i : Nat} (hi : 1 ≤ i ∧ i < 13) (hpq : p ≤ q) (hl : ∀ k, p ≤ k → k < q → lx_le (b k) = true) : sw_M b p q i ↔ lx_m b p q (lx_wn i) = true := by
  obtain ⟨h8, ht⟩ := lx_tab i hi
  rw [lx_mI]
  constructor
  · rintro ⟨h1, h2⟩
    refine ⟨by omega, fun j hj => ?_⟩
    have z := ht j hj
    by_cases c : j < am_Sl.getD i 0
    · rw [if_pos c] at z
      rw [if_pos (by omega), z.1, h2 j c]
    · rw [if_neg c] at z
      rw [if_neg (by omega), z]
  · rintro ⟨h1, h2⟩
    have e : q - p = am_Sl.getD i 0 := by
      rcases Nat.lt_trichotomy (q - p) (am_Sl.getD i 0) with c | c | c
      · exfalso
        have z := ht (q - p) (by omega)
        rw [if_pos c] at z
        have y := h2 (q - p) (by omega)
        rw [if_neg (by omega), z.1] at y
        exact z.2 y
      · exact c
      · exfalso
        have z := ht (am_Sl.getD i 0) h8
        rw [if_neg (Nat.lt_irrefl _)] at z
        have y := h2 (am_Sl.getD i 0) h8
        rw [if_pos (by omega), z] at y
        have x := hl (p + am_Sl.getD i 0) (by omega) (by omega)
        rw [← y] at x
        exact absurd x (by decide)
    refine ⟨e, fun j hj => ?_⟩
    have z := ht j (by omega)
    rw [if_pos hj] at z
    have y := h2 j (by omega)
    rw [if_pos (by omega)] at y
    rw [← z.1, y]
theorem lx_mx : ∀ w, w < 12 → ∀ v, v < 12 → (∀ i, i < 8 → lx_W (8 * w + i) = lx_W (8 * v + i)) → w = v := by decide +kernel
theorem lx_wfQ {b : Nat → Int32} {p q w : Nat} (h : lx_m b p q w = true) : ∀ {m u : Nat}, u ≤ w → w < u + m → (∀ v, u ≤ v → v < w → lx_m b p q v = false) → lx_wf b p q m u = w := by
  intro m
  induction m with
  | zero => intro u h1 h2; omega
  | succ m ih =>
    intro u h1 h2 h3
    show (if lx_m b p q u then u else lx_wf b p q m (u + 1)) = w
    by_cases e : u = w
    · subst e; rw [if_pos h]
    · rw [if_neg (by rw [h3 u (Nat.le_refl _) (by omega)]; decide)]
      exact ih (by omega) (by omega) (fun v h4 h5 => h3 v (by omega) h5)
theorem lx_wiE {b : Nat → Int32} {p q w : Nat} (hw : w < 12) (h : lx_m b p q w = true) : lx_wi b p q = w := by
  refine lx_wfQ h (Nat.zero_le _) (by omega) (fun v _ hv => ?_)
  cases e : lx_m b p q v with
  | false => rfl
  | true =>
    exfalso
    have := lx_mx v (by omega) w hw (fun i hi => ((lx_mI.mp e).2 i hi).trans ((lx_mI.mp h).2 i hi).symm)
    omega
theorem lx_wf12 {b : Nat → Int32} {p q : Nat} (h : ∀ v, v < 12 → lx_m b p q v = false) : ∀ {m u : Nat}, u + m = 12 → lx_wf b p q m u = 12 := by
  intro m
  induction m with
  | zero => intro u _; rfl
  | succ m ih =>
    intro u h1
    show (if lx_m b p q u then u else lx_wf b p q m (u + 1)) = 12
    rw [if_neg (by rw [h u (by omega)]; decide)]
    exact ih (by omega)
theorem lx_wi0 {b : Nat → Int32} {p q : Nat} (hpq : p ≤ q) (hl : ∀ k, p ≤ k → k < q → lx_le (b k) = true) (h : ∀ i, 1 ≤ i ∧ i < 13 → ¬ sw_M b p q i) : lx_tw (lx_wi b p q) = -23 := by
  have e : lx_wi b p q = 12 := lx_wf12 (fun v hv => by
    cases e : lx_m b p q v with
    | false => rfl
    | true =>
      exfalso
      have hi : 1 ≤ (if v < 3 then v + 10 else v - 2) ∧ (if v < 3 then v + 10 else v - 2) < 13 := by split <;> omega
      refine h _ hi ((sw_m hi hpq hl).mpr ?_)
      have e2 : lx_wn (if v < 3 then v + 10 else v - 2) = v := by
        unfold lx_wn
        by_cases c : v < 3
        · rw [if_pos c, if_neg (by omega)]; omega
        · rw [if_neg c, if_pos (by omega)]; omega
      rw [e2]; exact e) rfl
  rw [e]; decide
theorem lx_wiS {b : Nat → Int32} {p q i : Nat} (hi : 1 ≤ i ∧ i < 13) (hpq : p ≤ q) (hl : ∀ k, p ≤ k → k < q → lx_le (b k) = true) (h : sw_M b p q i) {v : Int32} (hv : lx_tw (lx_wn i) = v) : lx_tw (lx_wi b p q) = v := by
  rw [lx_wiE (w := lx_wn i) (by unfold lx_wn; split <;> omega) ((sw_m hi hpq hl).mp h)]
  exact hv
theorem lx_dig {x : Int32} (h : lx_di x = true) : x = nI (sN x) ∧ 48 ≤ sN x ∧ sN x ≤ 57 := by
  unfold lx_di at h
  rw [Bool.and_eq_true, decide_eq_true_eq, decide_eq_true_eq] at h
  obtain ⟨V, hV, rfl⟩ : am_rg x 58 := (am_rgl (x := x) (c := 57) (n := 58) (by decide)).mp ⟨by have := h.1; simp only [Int32.le_iff_toInt_le, Int32.reduceToInt] at *; omega, h.2⟩
  have h1 : 48 ≤ V := (nI_leI (a := 48) (b := V) (by decide) (by omega)).mp h.1
  rw [sN_n (by omega)]
  exact ⟨rfl, h1, by omega⟩
theorem lx_dA {x : Int32} {a : Nat} (h : lx_di x = true) : nI a + x = nI (a + sN x) := by
  have e : nI a + nI (sN x) = nI (a + sN x) := nI_add a (sN x)
  rw [← e, ← (lx_dig h).1]
theorem lx_dS {x : Int32} {a : Nat} (h : lx_di x = true) : nI (a + sN x) - 48 = nI (a + (sN x - 48)) := by
  have h1 := (lx_dig h).2.1
  have e : nI (a + sN x) - nI 48 = nI (a + sN x - 48) := pk_sub (by omega)
  rw [show a + (sN x - 48) = a + sN x - 48 by omega, ← e]
  rfl
theorem lx_blI {x : Int32} : lx_bl x = true ↔ (x = 32 ∨ x = 10) := by unfold lx_bl; rw [Bool.or_eq_true, decide_eq_true_eq, decide_eq_true_eq]
theorem lx_leI {x : Int32} : lx_le x = true ↔ (97 ≤ x ∧ x ≤ 122) := by unfold lx_le; rw [Bool.and_eq_true, decide_eq_true_eq, decide_eq_true_eq]
theorem lx_diI {x : Int32} : lx_di x = true ↔ (48 ≤ x ∧ x ≤ 57) := by unfold lx_di; rw [Bool.and_eq_true, decide_eq_true_eq, decide_eq_true_eq]
theorem lx_Fa {f : Int32 → Bool} {x : Int32} {P : Prop} (h : f x = true ↔ P) (h2 : ¬ P) : f x = false := by
  cases e : f x with
  | false => rfl
  | true => exact absurd (h.mp e) h2
def am_qI (v : Value) (σ0 : am_M) (K : am_M → Prop) : Option Value → am_M → Prop := fun r σ' => r = some v ∧ fr_I σ0 σ' ∧ K σ'

set_option maxHeartbeats 400000 in
set_option maxRecDepth 100000 in
theorem c_X4_byteAt (G : am_G) (D : Nat) (b : Nat → Int32) (n : Nat) (σ : am_M) (hB : tb_T b n σ) (i : Nat) (hi : i < n) : am_Mt G D mX4_byteAt [.ref 38, .int (nI i)] σ 0 0 (am_q (.int (b i)) σ) := by
  have h160 := hB.2.2.1
  refine am_of moX4_byteAt (Nat.le_of_ble_eq_true rfl) ?_
  show am_Ev G mX4_byteAt (am_R D 0 0) 0 0 (am_q (.int (b i)) σ) 0 [(0, .ref 38), (1, .int (nI i))] [] σ 0 0
  refine ev_iload_n dX4_byteAt_0 rfl rfl ?_
  refine ev_if_lt (tgt := 20) dX4_byteAt_1 (by decide) (fun c => absurd c (nI_pos (by omega))) (fun _ => ?_)
  refine ev_iload_n dX4_byteAt_4 rfl rfl ?_
  refine ev_sipush (v := 160) dX4_byteAt_5 (by decide) ?_
  refine ev_icmp_ge (tgt := 20) dX4_byteAt_8 (by decide) (fun c => absurd c (Int32.not_le.mpr (nI_lt (a := i) (b := 160) (by omega) (by decide)))) (fun _ => ?_)
  refine ev_aload_n dX4_byteAt_11 rfl rfl ?_
  refine ev_getR (b := 39) dX4_byteAt_12 fl_X4_9 (hB.1.1) (hB.1.2.2.2.1) ?_
  refine ev_iload_n dX4_byteAt_15 rfl rfl ?_
  refine ev_iald (v := b i) dX4_byteAt_16 (hB.1.2.1) (am_ixn (by omega) (by decide)) (hB.2.2.2 i (by omega)) ?_
  refine ev_goto (tgt := 21) dX4_byteAt_17 (by decide) ?_
  refine ev_reti dX4_byteAt_21 rfl (Nat.zero_le _) (Nat.zero_le _) ?_
  exact ⟨rfl, rfl⟩

set_option maxHeartbeats 400000 in
set_option maxRecDepth 100000 in
theorem c_X4_isWord (G : am_G) (D : Nat) (b : Nat → Int32) (n : Nat) (σ : am_M) (hB : tb_T b n σ) (i : Nat) (hi : i < 13) (p q : Nat) (hpq : p ≤ q) (hq : q ≤ n) (hp : σ.2.1 38 4 = nI p) (ha : σ.2.1 38 3 = nI q) : am_Mt G (D + 4) mX4_isWord [.ref 38, .ref (2 + i)] σ 0 0 (am_zq (sw_M b p q i) σ) := by
  have h160 := hB.2.2.1
  have h64 := (am_SL i hi).2.1
  refine am_of moX4_isWord (Nat.le_of_ble_eq_true rfl) ?_
  show am_Ev G mX4_isWord (am_R (D + 4) 0 0) 0 0 (am_zq (sw_M b p q i) σ) 0 [(0, .ref 38), (1, .ref (2 + i))] [] σ 0 0
  refine ev_aload_n dX4_isWord_0 rfl rfl ?_
  refine ev_callT (as := []) (st := []) dX4_isWord_1 mfJ0_length_8abf5 lk_X4_20 (i := i) (by omega) rfl (c_length G (D + 2) σ i (by omega)) rfl rfl (Nat.le_of_ble_eq_true rfl) (am_hR (by omega) (by decide)) ⟨Nat.le_refl _, Nat.le_refl _⟩ ?_
  rintro _ _ ⟨rfl, rfl⟩
  refine ev_aload_n dX4_isWord_4 rfl rfl ?_
  refine ev_getI (v := nI q) dX4_isWord_5 fl_X4_34 (hB.1.1) ha ?_
  refine ev_aload_n dX4_isWord_8 rfl rfl ?_
  refine ev_getI (v := nI p) dX4_isWord_9 fl_X4_92 (hB.1.1) hp ?_
  refine ev_isub (v := nI (q - p)) dX4_isWord_12 (pk_sub hpq) ?_
  refine ev_icmp_eq (tgt := 18) dX4_isWord_13 (by decide) (fun c1 => ?_) (fun c1 => ?_)
  · skip
    have c1n : (am_Sl.getD i 0) = (q - p) := (nI_eq (a := (am_Sl.getD i 0)) (b := (q - p)) (by omega) (by omega)).mp c1
    have hlen :  q - p = (am_Sl.getD i 0) := ((nI_eq (by omega) (by omega)).mp c1).symm
    refine ev_iconst (v := 0) dX4_isWord_18 (by decide) ?_
    refine ev_istore_n (lv' := [(0, .ref 38), (1, .ref (2 + i)), (2, .int 0)]) dX4_isWord_19 rfl (by decide) rfl ?_
    have lp : ∀ (f : Nat) (j : Nat), (j ≤ (am_Sl.getD i 0)) → (∀ y, y < j → am_sc i y = b (p + y)) → (am_Sl.getD i 0) - j < f → am_Ev G mX4_isWord (am_R (D + 4) 0 0) 0 0 (am_zq (sw_M b p q i) σ) 20 [(0, .ref 38), (1, .ref (2 + i)), (2, .int (nI j))] [] σ 0 0 := by
      intro f
      induction f with
      | zero => intro j hj hm hf; exact absurd hf (Nat.not_lt_zero _)
      | succ f ih =>
        intro j hj hm hf
        refine ev_iload_n dX4_isWord_20 rfl rfl ?_
        refine ev_aload_n dX4_isWord_21 rfl rfl ?_
        refine ev_callT (as := []) (st := [.int (nI j)]) dX4_isWord_22 mfJ0_length_8abf5 lk_X4_20 (i := i) (by omega) rfl (c_length G (D + 2) σ i (by omega)) rfl rfl (Nat.le_of_ble_eq_true rfl) (am_hR (by omega) (by decide)) ⟨Nat.le_refl _, Nat.le_refl _⟩ ?_
        rintro _ _ ⟨rfl, rfl⟩
        refine ev_icmp_ge (tgt := 68) dX4_isWord_25 (by decide) (fun c2 => ?_) (fun c2 => ?_)
        · skip
          have c2n : (am_Sl.getD i 0) ≤ j := (nI_leI (a := (am_Sl.getD i 0)) (b := j) (by omega) (by omega)).mp c2
          refine ev_iconst (v := 1) dX4_isWord_68 (by decide) ?_
          refine ev_retz dX4_isWord_69 rfl (Or.inr rfl) (Nat.zero_le _) (Nat.zero_le _) ?_
          exact Or.inl ⟨⟨hlen, fun y hy => hm y (by omega)⟩, rfl, rfl⟩
        · skip
          have c2n : ¬ (am_Sl.getD i 0) ≤ j := fun zz => c2 ((nI_leI (a := (am_Sl.getD i 0)) (b := j) (by omega) (by omega)).mpr zz)
          refine ev_aload_n dX4_isWord_28 rfl rfl ?_
          refine ev_getI (v := nI p) dX4_isWord_29 fl_X4_92 (hB.1.1) hp ?_
          refine ev_iload_n dX4_isWord_32 rfl rfl ?_
          refine ev_iadd (v := nI (p + j)) dX4_isWord_33 (nI_add p j) ?_
          refine ev_istore_n (lv' := [(0, .ref 38), (1, .ref (2 + i)), (2, .int (nI j)), (3, .int (nI (p + j)))]) dX4_isWord_34 rfl (by decide) rfl ?_
          refine ev_iload_n dX4_isWord_35 rfl rfl ?_
          refine ev_if_lt (tgt := 60) dX4_isWord_36 (by decide) (fun c => absurd c (nI_pos (by omega))) (fun _ => ?_)
          refine ev_iload_n dX4_isWord_39 rfl rfl ?_
          refine ev_sipush (v := 160) dX4_isWord_40 (by decide) ?_
          refine ev_icmp_ge (tgt := 60) dX4_isWord_43 (by decide) (fun c => absurd c (Int32.not_le.mpr (nI_lt (a := p + j) (b := 160) (by omega) (by decide)))) (fun _ => ?_)
          refine ev_aload_n dX4_isWord_46 rfl rfl ?_
          refine ev_iload_n dX4_isWord_47 rfl rfl ?_
          refine ev_callT (as := [.int (nI j)]) (st := []) dX4_isWord_48 mfJ0_charAt_5068e lk_X4_26 (i := i) (by omega) rfl (c_charAt G D σ i j (by omega) (by omega)) rfl rfl (Nat.le_of_ble_eq_true rfl) (am_hR (by omega) (by decide)) ⟨Nat.le_refl _, Nat.le_refl _⟩ ?_
          rintro _ _ ⟨rfl, rfl⟩
          refine ev_aload_n dX4_isWord_51 rfl rfl ?_
          refine ev_getR (b := 39) dX4_isWord_52 fl_X4_9 (hB.1.1) (hB.1.2.2.2.1) ?_
          refine ev_iload_n dX4_isWord_55 rfl rfl ?_
          refine ev_iald (v := b (p + j)) dX4_isWord_56 (hB.1.2.1) (am_ixn (by omega) (by decide)) (hB.2.2.2 (p + j) (by omega)) ?_
          refine ev_icmp_eq (tgt := 62) dX4_isWord_57 (by decide) (fun c3 => ?_) (fun c3 => ?_)
          · skip
            refine ev_iinc (lv' := [(0, .ref 38), (1, .ref (2 + i)), (2, .int (nI (j + 1))), (3, .int (nI (p + j)))]) (v := nI (j + 1)) dX4_isWord_62 rfl (nI_1 _) (by decide) rfl ?_
            refine ev_goto (tgt := 20) dX4_isWord_65 (by decide) ?_
            refine ev_keep (lv' := [(0, .ref 38), (1, .ref (2 + i)), (2, .int (nI (j + 1)))]) [0, 1, 2] rfl ?_
            exact ih (j + 1) (by omega) (fun y hy => by rcases Nat.lt_or_ge y j with z | z; exact hm y z; rw [show y = j by omega]; exact c3) (by omega)
          · skip
            refine ev_iconst (v := 0) dX4_isWord_60 (by decide) ?_
            refine ev_retz dX4_isWord_61 rfl (Or.inl rfl) (Nat.zero_le _) (Nat.zero_le _) ?_
            exact Or.inr ⟨fun z => c3 (z.2 j (by omega)), rfl, rfl⟩
    exact lp _ 0 (Nat.zero_le _) (fun y hy => absurd hy (Nat.not_lt_zero _)) (Nat.lt_succ_self _)
  · skip
    have c1n : ¬ (am_Sl.getD i 0) = (q - p) := fun zz => c1 ((nI_eq (a := (am_Sl.getD i 0)) (b := (q - p)) (by omega) (by omega)).mpr zz)
    have hlen : ¬ q - p = (am_Sl.getD i 0) := fun z => c1 (by rw [z])
    refine ev_iconst (v := 0) dX4_isWord_16 (by decide) ?_
    refine ev_retz dX4_isWord_17 rfl (Or.inl rfl) (Nat.zero_le _) (Nat.zero_le _) ?_
    exact Or.inr ⟨fun z => hlen z.1, rfl, rfl⟩

set_option maxHeartbeats 400000 in
set_option maxRecDepth 100000 in
theorem c_X4_word (G : am_G) (D : Nat) (b : Nat → Int32) (n : Nat) (σ : am_M) (hB : tb_T b n σ) (p q : Nat) (hpn : p < n) (hp : σ.2.1 38 4 = nI p) (ha : σ.2.1 38 3 = nI p) (hq : q = lx_run lx_le b (n - p) p) : am_Mt G (D + 5) mX4_word [.ref 38] σ 0 0 (am_qI (.int (lx_tw (lx_wi b p q))) σ (fun τ => τ.2.1 38 3 = nI q)) := by
  have h160 := hB.2.2.1
  have hl2 : ∀ k, p ≤ k → k < q → lx_le (b k) = true := fun k h1 h2 => lx_run_in (m := n - p) h1 (by rw [← hq]; exact h2)
  refine am_of moX4_word (Nat.le_of_ble_eq_true rfl) ?_
  show am_Ev G mX4_word (am_R (D + 5) 0 0) 0 0 (am_qI (.int (lx_tw (lx_wi b p q))) σ (fun τ => τ.2.1 38 3 = nI q)) 0 [(0, .ref 38)] [] σ 0 0
  have lp : ∀ (f : Nat) (a : Nat) (σ1 : am_M), (p ≤ a) → (a ≤ n) → (σ1.2.1 38 3 = nI a) → (lx_run lx_le b (n - a) a = q) → (fr_I σ σ1) → n - a < f → am_Ev G mX4_word (am_R (D + 5) 0 0) 0 0 (am_qI (.int (lx_tw (lx_wi b p q))) σ (fun τ => τ.2.1 38 3 = nI q)) 0 [(0, .ref 38)] [] σ1 0 0 := by
    intro f
    induction f with
    | zero => intro a σ1 hpa han ha1 hr hF1 hf; exact absurd hf (Nat.not_lt_zero _)
    | succ f ih =>
      intro a σ1 hpa han ha1 hr hF1 hf
      refine ev_aload_n dX4_word_0 rfl rfl ?_
      refine ev_getI (v := nI a) dX4_word_1 fl_X4_34 ((hB.K hF1.J.K).1.1) ha1 ?_
      refine ev_aload_n dX4_word_4 rfl rfl ?_
      refine ev_getI (v := nI n) dX4_word_5 fl_X4_16 ((hB.K hF1.J.K).1.1) (hB.K hF1.J.K).2.1 ?_
      refine ev_icmp_ge (tgt := 38) dX4_word_8 (by decide) (fun c1 => ?_) (fun c1 => ?_)
      · skip
        have c1n : n ≤ a := (nI_leI (a := n) (b := a) (by omega) (by omega)).mp c1
        have e : a = q := by rw [← hr]; exact (lx_run0 (by omega)).symm
        subst e
        have hq2 : a ≤ n := han
        refine ev_aload_n dX4_word_38 rfl rfl ?_
        refine ev_ldcS (i := 1) dX4_word_39 rfl ?_
        refine ev_callV (as := [.ref 3]) (st := []) dX4_word_41 mfX4_isWord lk_X4_112 ((hB.K hF1.J.K).1.1) (by decide) rfl (c_X4_isWord G D b n σ1 ((hB.K hF1.J.K)) 1 (by decide) p a hpa hq2 ((hF1.2.2 38 4 (by omega)).trans hp) ha1) rfl rfl (Nat.le_of_ble_eq_true rfl) (am_hR (by omega) (by decide)) ⟨Nat.le_refl _, Nat.le_refl _⟩ ?_
        rintro _ _ (⟨w1, rfl, rfl⟩ | ⟨w1, rfl, rfl⟩)
        · skip
          refine ev_if_eq (tgt := 49) dX4_word_44 (by decide) (fun c => absurd c (by decide)) (fun _ => ?_)
          refine ev_iconst (v := (-1)) dX4_word_47 (by decide) ?_
          refine ev_reti dX4_word_48 rfl (Nat.zero_le _) (Nat.zero_le _) ?_
          exact ⟨by rw [show lx_tw (lx_wi b p a) = (-1) from lx_wiS (i := 1) (by decide) hpa hl2 w1 (by decide)], hF1, ha1⟩
        · skip
          refine ev_if_eq (tgt := 49) dX4_word_44 (by decide) (fun _ => ?_) (fun c => absurd (by decide) c)
          refine ev_aload_n dX4_word_49 rfl rfl ?_
          refine ev_ldcS (i := 2) dX4_word_50 rfl ?_
          refine ev_callV (as := [.ref 4]) (st := []) dX4_word_52 mfX4_isWord lk_X4_112 ((hB.K hF1.J.K).1.1) (by decide) rfl (c_X4_isWord G D b n σ1 ((hB.K hF1.J.K)) 2 (by decide) p a hpa hq2 ((hF1.2.2 38 4 (by omega)).trans hp) ha1) rfl rfl (Nat.le_of_ble_eq_true rfl) (am_hR (by omega) (by decide)) ⟨Nat.le_refl _, Nat.le_refl _⟩ ?_
          rintro _ _ (⟨w2, rfl, rfl⟩ | ⟨w2, rfl, rfl⟩)
          · skip
            refine ev_if_eq (tgt := 61) dX4_word_55 (by decide) (fun c => absurd c (by decide)) (fun _ => ?_)
            refine ev_bipush (v := (-2)) dX4_word_58 (by decide) ?_
            refine ev_reti dX4_word_60 rfl (Nat.zero_le _) (Nat.zero_le _) ?_
            exact ⟨by rw [show lx_tw (lx_wi b p a) = (-2) from lx_wiS (i := 2) (by decide) hpa hl2 w2 (by decide)], hF1, ha1⟩
          · skip
            refine ev_if_eq (tgt := 61) dX4_word_55 (by decide) (fun _ => ?_) (fun c => absurd (by decide) c)
            refine ev_aload_n dX4_word_61 rfl rfl ?_
            refine ev_ldcS (i := 3) dX4_word_62 rfl ?_
            refine ev_callV (as := [.ref 5]) (st := []) dX4_word_64 mfX4_isWord lk_X4_112 ((hB.K hF1.J.K).1.1) (by decide) rfl (c_X4_isWord G D b n σ1 ((hB.K hF1.J.K)) 3 (by decide) p a hpa hq2 ((hF1.2.2 38 4 (by omega)).trans hp) ha1) rfl rfl (Nat.le_of_ble_eq_true rfl) (am_hR (by omega) (by decide)) ⟨Nat.le_refl _, Nat.le_refl _⟩ ?_
            rintro _ _ (⟨w3, rfl, rfl⟩ | ⟨w3, rfl, rfl⟩)
            · skip
              refine ev_if_eq (tgt := 73) dX4_word_67 (by decide) (fun c => absurd c (by decide)) (fun _ => ?_)
              refine ev_bipush (v := (-3)) dX4_word_70 (by decide) ?_
              refine ev_reti dX4_word_72 rfl (Nat.zero_le _) (Nat.zero_le _) ?_
              exact ⟨by rw [show lx_tw (lx_wi b p a) = (-3) from lx_wiS (i := 3) (by decide) hpa hl2 w3 (by decide)], hF1, ha1⟩
            · skip
              refine ev_if_eq (tgt := 73) dX4_word_67 (by decide) (fun _ => ?_) (fun c => absurd (by decide) c)
              refine ev_aload_n dX4_word_73 rfl rfl ?_
              refine ev_ldcS (i := 4) dX4_word_74 rfl ?_
              refine ev_callV (as := [.ref 6]) (st := []) dX4_word_76 mfX4_isWord lk_X4_112 ((hB.K hF1.J.K).1.1) (by decide) rfl (c_X4_isWord G D b n σ1 ((hB.K hF1.J.K)) 4 (by decide) p a hpa hq2 ((hF1.2.2 38 4 (by omega)).trans hp) ha1) rfl rfl (Nat.le_of_ble_eq_true rfl) (am_hR (by omega) (by decide)) ⟨Nat.le_refl _, Nat.le_refl _⟩ ?_
              rintro _ _ (⟨w4, rfl, rfl⟩ | ⟨w4, rfl, rfl⟩)
              · skip
                refine ev_if_eq (tgt := 85) dX4_word_79 (by decide) (fun c => absurd c (by decide)) (fun _ => ?_)
                refine ev_bipush (v := (-4)) dX4_word_82 (by decide) ?_
                refine ev_reti dX4_word_84 rfl (Nat.zero_le _) (Nat.zero_le _) ?_
                exact ⟨by rw [show lx_tw (lx_wi b p a) = (-4) from lx_wiS (i := 4) (by decide) hpa hl2 w4 (by decide)], hF1, ha1⟩
              · skip
                refine ev_if_eq (tgt := 85) dX4_word_79 (by decide) (fun _ => ?_) (fun c => absurd (by decide) c)
                refine ev_aload_n dX4_word_85 rfl rfl ?_
                refine ev_ldcS (i := 5) dX4_word_86 rfl ?_
                refine ev_callV (as := [.ref 7]) (st := []) dX4_word_88 mfX4_isWord lk_X4_112 ((hB.K hF1.J.K).1.1) (by decide) rfl (c_X4_isWord G D b n σ1 ((hB.K hF1.J.K)) 5 (by decide) p a hpa hq2 ((hF1.2.2 38 4 (by omega)).trans hp) ha1) rfl rfl (Nat.le_of_ble_eq_true rfl) (am_hR (by omega) (by decide)) ⟨Nat.le_refl _, Nat.le_refl _⟩ ?_
                rintro _ _ (⟨w5, rfl, rfl⟩ | ⟨w5, rfl, rfl⟩)
                · skip
                  refine ev_if_eq (tgt := 97) dX4_word_91 (by decide) (fun c => absurd c (by decide)) (fun _ => ?_)
                  refine ev_bipush (v := (-5)) dX4_word_94 (by decide) ?_
                  refine ev_reti dX4_word_96 rfl (Nat.zero_le _) (Nat.zero_le _) ?_
                  exact ⟨by rw [show lx_tw (lx_wi b p a) = (-5) from lx_wiS (i := 5) (by decide) hpa hl2 w5 (by decide)], hF1, ha1⟩
                · skip
                  refine ev_if_eq (tgt := 97) dX4_word_91 (by decide) (fun _ => ?_) (fun c => absurd (by decide) c)
                  refine ev_aload_n dX4_word_97 rfl rfl ?_
                  refine ev_ldcS (i := 6) dX4_word_98 rfl ?_
                  refine ev_callV (as := [.ref 8]) (st := []) dX4_word_100 mfX4_isWord lk_X4_112 ((hB.K hF1.J.K).1.1) (by decide) rfl (c_X4_isWord G D b n σ1 ((hB.K hF1.J.K)) 6 (by decide) p a hpa hq2 ((hF1.2.2 38 4 (by omega)).trans hp) ha1) rfl rfl (Nat.le_of_ble_eq_true rfl) (am_hR (by omega) (by decide)) ⟨Nat.le_refl _, Nat.le_refl _⟩ ?_
                  rintro _ _ (⟨w6, rfl, rfl⟩ | ⟨w6, rfl, rfl⟩)
                  · skip
                    refine ev_if_eq (tgt := 109) dX4_word_103 (by decide) (fun c => absurd c (by decide)) (fun _ => ?_)
                    refine ev_bipush (v := (-6)) dX4_word_106 (by decide) ?_
                    refine ev_reti dX4_word_108 rfl (Nat.zero_le _) (Nat.zero_le _) ?_
                    exact ⟨by rw [show lx_tw (lx_wi b p a) = (-6) from lx_wiS (i := 6) (by decide) hpa hl2 w6 (by decide)], hF1, ha1⟩
                  · skip
                    refine ev_if_eq (tgt := 109) dX4_word_103 (by decide) (fun _ => ?_) (fun c => absurd (by decide) c)
                    refine ev_aload_n dX4_word_109 rfl rfl ?_
                    refine ev_ldcS (i := 7) dX4_word_110 rfl ?_
                    refine ev_callV (as := [.ref 9]) (st := []) dX4_word_112 mfX4_isWord lk_X4_112 ((hB.K hF1.J.K).1.1) (by decide) rfl (c_X4_isWord G D b n σ1 ((hB.K hF1.J.K)) 7 (by decide) p a hpa hq2 ((hF1.2.2 38 4 (by omega)).trans hp) ha1) rfl rfl (Nat.le_of_ble_eq_true rfl) (am_hR (by omega) (by decide)) ⟨Nat.le_refl _, Nat.le_refl _⟩ ?_
                    rintro _ _ (⟨w7, rfl, rfl⟩ | ⟨w7, rfl, rfl⟩)
                    · skip
                      refine ev_if_eq (tgt := 121) dX4_word_115 (by decide) (fun c => absurd c (by decide)) (fun _ => ?_)
                      refine ev_bipush (v := (-7)) dX4_word_118 (by decide) ?_
                      refine ev_reti dX4_word_120 rfl (Nat.zero_le _) (Nat.zero_le _) ?_
                      exact ⟨by rw [show lx_tw (lx_wi b p a) = (-7) from lx_wiS (i := 7) (by decide) hpa hl2 w7 (by decide)], hF1, ha1⟩
                    · skip
                      refine ev_if_eq (tgt := 121) dX4_word_115 (by decide) (fun _ => ?_) (fun c => absurd (by decide) c)
                      refine ev_aload_n dX4_word_121 rfl rfl ?_
                      refine ev_ldcS (i := 8) dX4_word_122 rfl ?_
                      refine ev_callV (as := [.ref 10]) (st := []) dX4_word_124 mfX4_isWord lk_X4_112 ((hB.K hF1.J.K).1.1) (by decide) rfl (c_X4_isWord G D b n σ1 ((hB.K hF1.J.K)) 8 (by decide) p a hpa hq2 ((hF1.2.2 38 4 (by omega)).trans hp) ha1) rfl rfl (Nat.le_of_ble_eq_true rfl) (am_hR (by omega) (by decide)) ⟨Nat.le_refl _, Nat.le_refl _⟩ ?_
                      rintro _ _ (⟨w8, rfl, rfl⟩ | ⟨w8, rfl, rfl⟩)
                      · skip
                        refine ev_if_eq (tgt := 133) dX4_word_127 (by decide) (fun c => absurd c (by decide)) (fun _ => ?_)
                        refine ev_bipush (v := (-8)) dX4_word_130 (by decide) ?_
                        refine ev_reti dX4_word_132 rfl (Nat.zero_le _) (Nat.zero_le _) ?_
                        exact ⟨by rw [show lx_tw (lx_wi b p a) = (-8) from lx_wiS (i := 8) (by decide) hpa hl2 w8 (by decide)], hF1, ha1⟩
                      · skip
                        refine ev_if_eq (tgt := 133) dX4_word_127 (by decide) (fun _ => ?_) (fun c => absurd (by decide) c)
                        refine ev_aload_n dX4_word_133 rfl rfl ?_
                        refine ev_ldcS (i := 9) dX4_word_134 rfl ?_
                        refine ev_callV (as := [.ref 11]) (st := []) dX4_word_136 mfX4_isWord lk_X4_112 ((hB.K hF1.J.K).1.1) (by decide) rfl (c_X4_isWord G D b n σ1 ((hB.K hF1.J.K)) 9 (by decide) p a hpa hq2 ((hF1.2.2 38 4 (by omega)).trans hp) ha1) rfl rfl (Nat.le_of_ble_eq_true rfl) (am_hR (by omega) (by decide)) ⟨Nat.le_refl _, Nat.le_refl _⟩ ?_
                        rintro _ _ (⟨w9, rfl, rfl⟩ | ⟨w9, rfl, rfl⟩)
                        · skip
                          refine ev_if_eq (tgt := 145) dX4_word_139 (by decide) (fun c => absurd c (by decide)) (fun _ => ?_)
                          refine ev_bipush (v := (-9)) dX4_word_142 (by decide) ?_
                          refine ev_reti dX4_word_144 rfl (Nat.zero_le _) (Nat.zero_le _) ?_
                          exact ⟨by rw [show lx_tw (lx_wi b p a) = (-9) from lx_wiS (i := 9) (by decide) hpa hl2 w9 (by decide)], hF1, ha1⟩
                        · skip
                          refine ev_if_eq (tgt := 145) dX4_word_139 (by decide) (fun _ => ?_) (fun c => absurd (by decide) c)
                          refine ev_aload_n dX4_word_145 rfl rfl ?_
                          refine ev_ldcS (i := 10) dX4_word_146 rfl ?_
                          refine ev_callV (as := [.ref 12]) (st := []) dX4_word_148 mfX4_isWord lk_X4_112 ((hB.K hF1.J.K).1.1) (by decide) rfl (c_X4_isWord G D b n σ1 ((hB.K hF1.J.K)) 10 (by decide) p a hpa hq2 ((hF1.2.2 38 4 (by omega)).trans hp) ha1) rfl rfl (Nat.le_of_ble_eq_true rfl) (am_hR (by omega) (by decide)) ⟨Nat.le_refl _, Nat.le_refl _⟩ ?_
                          rintro _ _ (⟨w10, rfl, rfl⟩ | ⟨w10, rfl, rfl⟩)
                          · skip
                            refine ev_if_eq (tgt := 157) dX4_word_151 (by decide) (fun c => absurd c (by decide)) (fun _ => ?_)
                            refine ev_bipush (v := (-19)) dX4_word_154 (by decide) ?_
                            refine ev_reti dX4_word_156 rfl (Nat.zero_le _) (Nat.zero_le _) ?_
                            exact ⟨by rw [show lx_tw (lx_wi b p a) = (-19) from lx_wiS (i := 10) (by decide) hpa hl2 w10 (by decide)], hF1, ha1⟩
                          · skip
                            refine ev_if_eq (tgt := 157) dX4_word_151 (by decide) (fun _ => ?_) (fun c => absurd (by decide) c)
                            refine ev_aload_n dX4_word_157 rfl rfl ?_
                            refine ev_ldcS (i := 11) dX4_word_158 rfl ?_
                            refine ev_callV (as := [.ref 13]) (st := []) dX4_word_160 mfX4_isWord lk_X4_112 ((hB.K hF1.J.K).1.1) (by decide) rfl (c_X4_isWord G D b n σ1 ((hB.K hF1.J.K)) 11 (by decide) p a hpa hq2 ((hF1.2.2 38 4 (by omega)).trans hp) ha1) rfl rfl (Nat.le_of_ble_eq_true rfl) (am_hR (by omega) (by decide)) ⟨Nat.le_refl _, Nat.le_refl _⟩ ?_
                            rintro _ _ (⟨w11, rfl, rfl⟩ | ⟨w11, rfl, rfl⟩)
                            · skip
                              refine ev_if_eq (tgt := 169) dX4_word_163 (by decide) (fun c => absurd c (by decide)) (fun _ => ?_)
                              refine ev_bipush (v := (-20)) dX4_word_166 (by decide) ?_
                              refine ev_reti dX4_word_168 rfl (Nat.zero_le _) (Nat.zero_le _) ?_
                              exact ⟨by rw [show lx_tw (lx_wi b p a) = (-20) from lx_wiS (i := 11) (by decide) hpa hl2 w11 (by decide)], hF1, ha1⟩
                            · skip
                              refine ev_if_eq (tgt := 169) dX4_word_163 (by decide) (fun _ => ?_) (fun c => absurd (by decide) c)
                              refine ev_aload_n dX4_word_169 rfl rfl ?_
                              refine ev_ldcS (i := 12) dX4_word_170 rfl ?_
                              refine ev_callV (as := [.ref 14]) (st := []) dX4_word_172 mfX4_isWord lk_X4_112 ((hB.K hF1.J.K).1.1) (by decide) rfl (c_X4_isWord G D b n σ1 ((hB.K hF1.J.K)) 12 (by decide) p a hpa hq2 ((hF1.2.2 38 4 (by omega)).trans hp) ha1) rfl rfl (Nat.le_of_ble_eq_true rfl) (am_hR (by omega) (by decide)) ⟨Nat.le_refl _, Nat.le_refl _⟩ ?_
                              rintro _ _ (⟨w12, rfl, rfl⟩ | ⟨w12, rfl, rfl⟩)
                              · skip
                                refine ev_if_eq (tgt := 183) dX4_word_175 (by decide) (fun c => absurd c (by decide)) (fun _ => ?_)
                                refine ev_bipush (v := (-21)) dX4_word_178 (by decide) ?_
                                refine ev_goto (tgt := 185) dX4_word_180 (by decide) ?_
                                refine ev_reti dX4_word_185 rfl (Nat.zero_le _) (Nat.zero_le _) ?_
                                exact ⟨by rw [show lx_tw (lx_wi b p a) = (-21) from lx_wiS (i := 12) (by decide) hpa hl2 w12 (by decide)], hF1, ha1⟩
                              · skip
                                refine ev_if_eq (tgt := 183) dX4_word_175 (by decide) (fun _ => ?_) (fun c => absurd (by decide) c)
                                refine ev_bipush (v := (-23)) dX4_word_183 (by decide) ?_
                                refine ev_reti dX4_word_185 rfl (Nat.zero_le _) (Nat.zero_le _) ?_
                                exact ⟨by rw [show lx_tw (lx_wi b p a) = (-23) from lx_wi0 hpa hl2 (fun i hi => by rcases (show i = 1 ∨ i = 2 ∨ i = 3 ∨ i = 4 ∨ i = 5 ∨ i = 6 ∨ i = 7 ∨ i = 8 ∨ i = 9 ∨ i = 10 ∨ i = 11 ∨ i = 12 by omega) with rfl | rfl | rfl | rfl | rfl | rfl | rfl | rfl | rfl | rfl | rfl | rfl; exact w1; exact w2; exact w3; exact w4; exact w5; exact w6; exact w7; exact w8; exact w9; exact w10; exact w11; exact w12)], hF1, ha1⟩
      · skip
        have c1n : ¬ n ≤ a := fun zz => c1 ((nI_leI (a := n) (b := a) (by omega) (by omega)).mpr zz)
        refine ev_aload_n dX4_word_11 rfl rfl ?_
        refine ev_aload_n dX4_word_12 rfl rfl ?_
        refine ev_getI (v := nI a) dX4_word_13 fl_X4_34 ((hB.K hF1.J.K).1.1) ha1 ?_
        refine ev_callV (as := [.int (nI a)]) (st := []) dX4_word_16 mfX4_byteAt lk_X4_85 ((hB.K hF1.J.K).1.1) (by decide) rfl (c_X4_byteAt G (D + 4) b n σ1 ((hB.K hF1.J.K)) a (by omega)) rfl rfl (Nat.le_of_ble_eq_true rfl) (am_hR (by omega) (by decide)) ⟨Nat.le_refl _, Nat.le_refl _⟩ ?_
        rintro _ _ ⟨rfl, rfl⟩
        refine ev_callS (as := [.int (b a)]) (st := []) dX4_word_19 mfX4_isLetter lk_X4_95 (c_X4_isLetter G (D + 4) σ1 (b a)) rfl rfl (Nat.le_of_ble_eq_true rfl) (am_hR (by omega) (by decide)) ⟨Nat.le_refl _, Nat.le_refl _⟩ ?_
        rintro _ _ (⟨h2, rfl, rfl⟩ | ⟨h2, rfl, rfl⟩)
        · skip
          replace h2 := lx_leI.mpr h2
          refine ev_if_eq (tgt := 38) dX4_word_22 (by decide) (fun c => absurd c (by decide)) (fun _ => ?_)
          refine ev_aload_n dX4_word_25 rfl rfl ?_
          refine ev_dup dX4_word_26 rfl ?_
          refine ev_getI (v := nI a) dX4_word_27 fl_X4_34 ((hB.K hF1.J.K).1.1) ha1 ?_
          refine ev_iconst (v := 1) dX4_word_30 (by decide) ?_
          refine ev_iadd (v := nI (a + 1)) dX4_word_31 (nI_1 _) ?_
          refine ev_putI dX4_word_32 fl_X4_34 rfl rfl ((hB.K hF1.J.K).1.1) ?_
          refine ev_goto (tgt := 0) dX4_word_35 (by decide) ?_
          exact ih (a + 1) (am_sI σ1 38 3 (nI (a + 1))) (by omega) (by omega) am_rs ((lx_runS (by omega) h2).symm.trans hr) (fr_I.wr (by omega) hF1) (by omega)
        · skip
          replace h2 := lx_Fa lx_leI h2
          refine ev_if_eq (tgt := 38) dX4_word_22 (by decide) (fun _ => ?_) (fun c => absurd (by decide) c)
          have e : a = q := by rw [← hr]; exact (lx_runE h2).symm
          subst e
          have hq2 : a ≤ n := han
          refine ev_aload_n dX4_word_38 rfl rfl ?_
          refine ev_ldcS (i := 1) dX4_word_39 rfl ?_
          refine ev_callV (as := [.ref 3]) (st := []) dX4_word_41 mfX4_isWord lk_X4_112 ((hB.K hF1.J.K).1.1) (by decide) rfl (c_X4_isWord G D b n σ1 ((hB.K hF1.J.K)) 1 (by decide) p a hpa hq2 ((hF1.2.2 38 4 (by omega)).trans hp) ha1) rfl rfl (Nat.le_of_ble_eq_true rfl) (am_hR (by omega) (by decide)) ⟨Nat.le_refl _, Nat.le_refl _⟩ ?_
          rintro _ _ (⟨w1, rfl, rfl⟩ | ⟨w1, rfl, rfl⟩)
          · skip
            refine ev_if_eq (tgt := 49) dX4_word_44 (by decide) (fun c => absurd c (by decide)) (fun _ => ?_)
            refine ev_iconst (v := (-1)) dX4_word_47 (by decide) ?_
            refine ev_reti dX4_word_48 rfl (Nat.zero_le _) (Nat.zero_le _) ?_
            exact ⟨by rw [show lx_tw (lx_wi b p a) = (-1) from lx_wiS (i := 1) (by decide) hpa hl2 w1 (by decide)], hF1, ha1⟩
          · skip
            refine ev_if_eq (tgt := 49) dX4_word_44 (by decide) (fun _ => ?_) (fun c => absurd (by decide) c)
            refine ev_aload_n dX4_word_49 rfl rfl ?_
            refine ev_ldcS (i := 2) dX4_word_50 rfl ?_
            refine ev_callV (as := [.ref 4]) (st := []) dX4_word_52 mfX4_isWord lk_X4_112 ((hB.K hF1.J.K).1.1) (by decide) rfl (c_X4_isWord G D b n σ1 ((hB.K hF1.J.K)) 2 (by decide) p a hpa hq2 ((hF1.2.2 38 4 (by omega)).trans hp) ha1) rfl rfl (Nat.le_of_ble_eq_true rfl) (am_hR (by omega) (by decide)) ⟨Nat.le_refl _, Nat.le_refl _⟩ ?_
            rintro _ _ (⟨w2, rfl, rfl⟩ | ⟨w2, rfl, rfl⟩)
            · skip
              refine ev_if_eq (tgt := 61) dX4_word_55 (by decide) (fun c => absurd c (by decide)) (fun _ => ?_)
              refine ev_bipush (v := (-2)) dX4_word_58 (by decide) ?_
              refine ev_reti dX4_word_60 rfl (Nat.zero_le _) (Nat.zero_le _) ?_
              exact ⟨by rw [show lx_tw (lx_wi b p a) = (-2) from lx_wiS (i := 2) (by decide) hpa hl2 w2 (by decide)], hF1, ha1⟩
            · skip
              refine ev_if_eq (tgt := 61) dX4_word_55 (by decide) (fun _ => ?_) (fun c => absurd (by decide) c)
              refine ev_aload_n dX4_word_61 rfl rfl ?_
              refine ev_ldcS (i := 3) dX4_word_62 rfl ?_
              refine ev_callV (as := [.ref 5]) (st := []) dX4_word_64 mfX4_isWord lk_X4_112 ((hB.K hF1.J.K).1.1) (by decide) rfl (c_X4_isWord G D b n σ1 ((hB.K hF1.J.K)) 3 (by decide) p a hpa hq2 ((hF1.2.2 38 4 (by omega)).trans hp) ha1) rfl rfl (Nat.le_of_ble_eq_true rfl) (am_hR (by omega) (by decide)) ⟨Nat.le_refl _, Nat.le_refl _⟩ ?_
              rintro _ _ (⟨w3, rfl, rfl⟩ | ⟨w3, rfl, rfl⟩)
              · skip
                refine ev_if_eq (tgt := 73) dX4_word_67 (by decide) (fun c => absurd c (by decide)) (fun _ => ?_)
                refine ev_bipush (v := (-3)) dX4_word_70 (by decide) ?_
                refine ev_reti dX4_word_72 rfl (Nat.zero_le _) (Nat.zero_le _) ?_
                exact ⟨by rw [show lx_tw (lx_wi b p a) = (-3) from lx_wiS (i := 3) (by decide) hpa hl2 w3 (by decide)], hF1, ha1⟩
              · skip
                refine ev_if_eq (tgt := 73) dX4_word_67 (by decide) (fun _ => ?_) (fun c => absurd (by decide) c)
                refine ev_aload_n dX4_word_73 rfl rfl ?_
                refine ev_ldcS (i := 4) dX4_word_74 rfl ?_
                refine ev_callV (as := [.ref 6]) (st := []) dX4_word_76 mfX4_isWord lk_X4_112 ((hB.K hF1.J.K).1.1) (by decide) rfl (c_X4_isWord G D b n σ1 ((hB.K hF1.J.K)) 4 (by decide) p a hpa hq2 ((hF1.2.2 38 4 (by omega)).trans hp) ha1) rfl rfl (Nat.le_of_ble_eq_true rfl) (am_hR (by omega) (by decide)) ⟨Nat.le_refl _, Nat.le_refl _⟩ ?_
                rintro _ _ (⟨w4, rfl, rfl⟩ | ⟨w4, rfl, rfl⟩)
                · skip
                  refine ev_if_eq (tgt := 85) dX4_word_79 (by decide) (fun c => absurd c (by decide)) (fun _ => ?_)
                  refine ev_bipush (v := (-4)) dX4_word_82 (by decide) ?_
                  refine ev_reti dX4_word_84 rfl (Nat.zero_le _) (Nat.zero_le _) ?_
                  exact ⟨by rw [show lx_tw (lx_wi b p a) = (-4) from lx_wiS (i := 4) (by decide) hpa hl2 w4 (by decide)], hF1, ha1⟩
                · skip
                  refine ev_if_eq (tgt := 85) dX4_word_79 (by decide) (fun _ => ?_) (fun c => absurd (by decide) c)
                  refine ev_aload_n dX4_word_85 rfl rfl ?_
                  refine ev_ldcS (i := 5) dX4_word_86 rfl ?_
                  refine ev_callV (as := [.ref 7]) (st := []) dX4_word_88 mfX4_isWord lk_X4_112 ((hB.K hF1.J.K).1.1) (by decide) rfl (c_X4_isWord G D b n σ1 ((hB.K hF1.J.K)) 5 (by decide) p a hpa hq2 ((hF1.2.2 38 4 (by omega)).trans hp) ha1) rfl rfl (Nat.le_of_ble_eq_true rfl) (am_hR (by omega) (by decide)) ⟨Nat.le_refl _, Nat.le_refl _⟩ ?_
                  rintro _ _ (⟨w5, rfl, rfl⟩ | ⟨w5, rfl, rfl⟩)
                  · skip
                    refine ev_if_eq (tgt := 97) dX4_word_91 (by decide) (fun c => absurd c (by decide)) (fun _ => ?_)
                    refine ev_bipush (v := (-5)) dX4_word_94 (by decide) ?_
                    refine ev_reti dX4_word_96 rfl (Nat.zero_le _) (Nat.zero_le _) ?_
                    exact ⟨by rw [show lx_tw (lx_wi b p a) = (-5) from lx_wiS (i := 5) (by decide) hpa hl2 w5 (by decide)], hF1, ha1⟩
                  · skip
                    refine ev_if_eq (tgt := 97) dX4_word_91 (by decide) (fun _ => ?_) (fun c => absurd (by decide) c)
                    refine ev_aload_n dX4_word_97 rfl rfl ?_
                    refine ev_ldcS (i := 6) dX4_word_98 rfl ?_
                    refine ev_callV (as := [.ref 8]) (st := []) dX4_word_100 mfX4_isWord lk_X4_112 ((hB.K hF1.J.K).1.1) (by decide) rfl (c_X4_isWord G D b n σ1 ((hB.K hF1.J.K)) 6 (by decide) p a hpa hq2 ((hF1.2.2 38 4 (by omega)).trans hp) ha1) rfl rfl (Nat.le_of_ble_eq_true rfl) (am_hR (by omega) (by decide)) ⟨Nat.le_refl _, Nat.le_refl _⟩ ?_
                    rintro _ _ (⟨w6, rfl, rfl⟩ | ⟨w6, rfl, rfl⟩)
                    · skip
                      refine ev_if_eq (tgt := 109) dX4_word_103 (by decide) (fun c => absurd c (by decide)) (fun _ => ?_)
                      refine ev_bipush (v := (-6)) dX4_word_106 (by decide) ?_
                      refine ev_reti dX4_word_108 rfl (Nat.zero_le _) (Nat.zero_le _) ?_
                      exact ⟨by rw [show lx_tw (lx_wi b p a) = (-6) from lx_wiS (i := 6) (by decide) hpa hl2 w6 (by decide)], hF1, ha1⟩
                    · skip
                      refine ev_if_eq (tgt := 109) dX4_word_103 (by decide) (fun _ => ?_) (fun c => absurd (by decide) c)
                      refine ev_aload_n dX4_word_109 rfl rfl ?_
                      refine ev_ldcS (i := 7) dX4_word_110 rfl ?_
                      refine ev_callV (as := [.ref 9]) (st := []) dX4_word_112 mfX4_isWord lk_X4_112 ((hB.K hF1.J.K).1.1) (by decide) rfl (c_X4_isWord G D b n σ1 ((hB.K hF1.J.K)) 7 (by decide) p a hpa hq2 ((hF1.2.2 38 4 (by omega)).trans hp) ha1) rfl rfl (Nat.le_of_ble_eq_true rfl) (am_hR (by omega) (by decide)) ⟨Nat.le_refl _, Nat.le_refl _⟩ ?_
                      rintro _ _ (⟨w7, rfl, rfl⟩ | ⟨w7, rfl, rfl⟩)
                      · skip
                        refine ev_if_eq (tgt := 121) dX4_word_115 (by decide) (fun c => absurd c (by decide)) (fun _ => ?_)
                        refine ev_bipush (v := (-7)) dX4_word_118 (by decide) ?_
                        refine ev_reti dX4_word_120 rfl (Nat.zero_le _) (Nat.zero_le _) ?_
                        exact ⟨by rw [show lx_tw (lx_wi b p a) = (-7) from lx_wiS (i := 7) (by decide) hpa hl2 w7 (by decide)], hF1, ha1⟩
                      · skip
                        refine ev_if_eq (tgt := 121) dX4_word_115 (by decide) (fun _ => ?_) (fun c => absurd (by decide) c)
                        refine ev_aload_n dX4_word_121 rfl rfl ?_
                        refine ev_ldcS (i := 8) dX4_word_122 rfl ?_
                        refine ev_callV (as := [.ref 10]) (st := []) dX4_word_124 mfX4_isWord lk_X4_112 ((hB.K hF1.J.K).1.1) (by decide) rfl (c_X4_isWord G D b n σ1 ((hB.K hF1.J.K)) 8 (by decide) p a hpa hq2 ((hF1.2.2 38 4 (by omega)).trans hp) ha1) rfl rfl (Nat.le_of_ble_eq_true rfl) (am_hR (by omega) (by decide)) ⟨Nat.le_refl _, Nat.le_refl _⟩ ?_
                        rintro _ _ (⟨w8, rfl, rfl⟩ | ⟨w8, rfl, rfl⟩)
                        · skip
                          refine ev_if_eq (tgt := 133) dX4_word_127 (by decide) (fun c => absurd c (by decide)) (fun _ => ?_)
                          refine ev_bipush (v := (-8)) dX4_word_130 (by decide) ?_
                          refine ev_reti dX4_word_132 rfl (Nat.zero_le _) (Nat.zero_le _) ?_
                          exact ⟨by rw [show lx_tw (lx_wi b p a) = (-8) from lx_wiS (i := 8) (by decide) hpa hl2 w8 (by decide)], hF1, ha1⟩
                        · skip
                          refine ev_if_eq (tgt := 133) dX4_word_127 (by decide) (fun _ => ?_) (fun c => absurd (by decide) c)
                          refine ev_aload_n dX4_word_133 rfl rfl ?_
                          refine ev_ldcS (i := 9) dX4_word_134 rfl ?_
                          refine ev_callV (as := [.ref 11]) (st := []) dX4_word_136 mfX4_isWord lk_X4_112 ((hB.K hF1.J.K).1.1) (by decide) rfl (c_X4_isWord G D b n σ1 ((hB.K hF1.J.K)) 9 (by decide) p a hpa hq2 ((hF1.2.2 38 4 (by omega)).trans hp) ha1) rfl rfl (Nat.le_of_ble_eq_true rfl) (am_hR (by omega) (by decide)) ⟨Nat.le_refl _, Nat.le_refl _⟩ ?_
                          rintro _ _ (⟨w9, rfl, rfl⟩ | ⟨w9, rfl, rfl⟩)
                          · skip
                            refine ev_if_eq (tgt := 145) dX4_word_139 (by decide) (fun c => absurd c (by decide)) (fun _ => ?_)
                            refine ev_bipush (v := (-9)) dX4_word_142 (by decide) ?_
                            refine ev_reti dX4_word_144 rfl (Nat.zero_le _) (Nat.zero_le _) ?_
                            exact ⟨by rw [show lx_tw (lx_wi b p a) = (-9) from lx_wiS (i := 9) (by decide) hpa hl2 w9 (by decide)], hF1, ha1⟩
                          · skip
                            refine ev_if_eq (tgt := 145) dX4_word_139 (by decide) (fun _ => ?_) (fun c => absurd (by decide) c)
                            refine ev_aload_n dX4_word_145 rfl rfl ?_
                            refine ev_ldcS (i := 10) dX4_word_146 rfl ?_
                            refine ev_callV (as := [.ref 12]) (st := []) dX4_word_148 mfX4_isWord lk_X4_112 ((hB.K hF1.J.K).1.1) (by decide) rfl (c_X4_isWord G D b n σ1 ((hB.K hF1.J.K)) 10 (by decide) p a hpa hq2 ((hF1.2.2 38 4 (by omega)).trans hp) ha1) rfl rfl (Nat.le_of_ble_eq_true rfl) (am_hR (by omega) (by decide)) ⟨Nat.le_refl _, Nat.le_refl _⟩ ?_
                            rintro _ _ (⟨w10, rfl, rfl⟩ | ⟨w10, rfl, rfl⟩)
                            · skip
                              refine ev_if_eq (tgt := 157) dX4_word_151 (by decide) (fun c => absurd c (by decide)) (fun _ => ?_)
                              refine ev_bipush (v := (-19)) dX4_word_154 (by decide) ?_
                              refine ev_reti dX4_word_156 rfl (Nat.zero_le _) (Nat.zero_le _) ?_
                              exact ⟨by rw [show lx_tw (lx_wi b p a) = (-19) from lx_wiS (i := 10) (by decide) hpa hl2 w10 (by decide)], hF1, ha1⟩
                            · skip
                              refine ev_if_eq (tgt := 157) dX4_word_151 (by decide) (fun _ => ?_) (fun c => absurd (by decide) c)
                              refine ev_aload_n dX4_word_157 rfl rfl ?_
                              refine ev_ldcS (i := 11) dX4_word_158 rfl ?_
                              refine ev_callV (as := [.ref 13]) (st := []) dX4_word_160 mfX4_isWord lk_X4_112 ((hB.K hF1.J.K).1.1) (by decide) rfl (c_X4_isWord G D b n σ1 ((hB.K hF1.J.K)) 11 (by decide) p a hpa hq2 ((hF1.2.2 38 4 (by omega)).trans hp) ha1) rfl rfl (Nat.le_of_ble_eq_true rfl) (am_hR (by omega) (by decide)) ⟨Nat.le_refl _, Nat.le_refl _⟩ ?_
                              rintro _ _ (⟨w11, rfl, rfl⟩ | ⟨w11, rfl, rfl⟩)
                              · skip
                                refine ev_if_eq (tgt := 169) dX4_word_163 (by decide) (fun c => absurd c (by decide)) (fun _ => ?_)
                                refine ev_bipush (v := (-20)) dX4_word_166 (by decide) ?_
                                refine ev_reti dX4_word_168 rfl (Nat.zero_le _) (Nat.zero_le _) ?_
                                exact ⟨by rw [show lx_tw (lx_wi b p a) = (-20) from lx_wiS (i := 11) (by decide) hpa hl2 w11 (by decide)], hF1, ha1⟩
                              · skip
                                refine ev_if_eq (tgt := 169) dX4_word_163 (by decide) (fun _ => ?_) (fun c => absurd (by decide) c)
                                refine ev_aload_n dX4_word_169 rfl rfl ?_
                                refine ev_ldcS (i := 12) dX4_word_170 rfl ?_
                                refine ev_callV (as := [.ref 14]) (st := []) dX4_word_172 mfX4_isWord lk_X4_112 ((hB.K hF1.J.K).1.1) (by decide) rfl (c_X4_isWord G D b n σ1 ((hB.K hF1.J.K)) 12 (by decide) p a hpa hq2 ((hF1.2.2 38 4 (by omega)).trans hp) ha1) rfl rfl (Nat.le_of_ble_eq_true rfl) (am_hR (by omega) (by decide)) ⟨Nat.le_refl _, Nat.le_refl _⟩ ?_
                                rintro _ _ (⟨w12, rfl, rfl⟩ | ⟨w12, rfl, rfl⟩)
                                · skip
                                  refine ev_if_eq (tgt := 183) dX4_word_175 (by decide) (fun c => absurd c (by decide)) (fun _ => ?_)
                                  refine ev_bipush (v := (-21)) dX4_word_178 (by decide) ?_
                                  refine ev_goto (tgt := 185) dX4_word_180 (by decide) ?_
                                  refine ev_reti dX4_word_185 rfl (Nat.zero_le _) (Nat.zero_le _) ?_
                                  exact ⟨by rw [show lx_tw (lx_wi b p a) = (-21) from lx_wiS (i := 12) (by decide) hpa hl2 w12 (by decide)], hF1, ha1⟩
                                · skip
                                  refine ev_if_eq (tgt := 183) dX4_word_175 (by decide) (fun _ => ?_) (fun c => absurd (by decide) c)
                                  refine ev_bipush (v := (-23)) dX4_word_183 (by decide) ?_
                                  refine ev_reti dX4_word_185 rfl (Nat.zero_le _) (Nat.zero_le _) ?_
                                  exact ⟨by rw [show lx_tw (lx_wi b p a) = (-23) from lx_wi0 hpa hl2 (fun i hi => by rcases (show i = 1 ∨ i = 2 ∨ i = 3 ∨ i = 4 ∨ i = 5 ∨ i = 6 ∨ i = 7 ∨ i = 8 ∨ i = 9 ∨ i = 10 ∨ i = 11 ∨ i = 12 by omega) with rfl | rfl | rfl | rfl | rfl | rfl | rfl | rfl | rfl | rfl | rfl | rfl; exact w1; exact w2; exact w3; exact w4; exact w5; exact w6; exact w7; exact w8; exact w9; exact w10; exact w11; exact w12)], hF1, ha1⟩
  exact lp _ p σ (Nat.le_refl _) (Nat.le_of_lt hpn) ha hq.symm fr_I.rf (Nat.lt_succ_self _)

set_option maxHeartbeats 400000 in
set_option maxRecDepth 100000 in
theorem c_X4_number (G : am_G) (D : Nat) (b : Nat → Int32) (n : Nat) (σ : am_M) (hB : tb_T b n σ) (p q : Nat) (hpn : p < n) (hp : σ.2.1 38 4 = nI p) (ha : σ.2.1 38 3 = nI p) (hq : q = lx_run lx_di b (n - p) p) : am_Mt G (D + 1) mX4_number [.ref 38] σ 0 0 (am_qI (.int (if q - p ≤ 4 then nI (lx_v b p (q - p)) else -23)) σ (fun τ => τ.2.1 38 3 = nI q)) := by
  have h160 := hB.2.2.1
  refine am_of moX4_number (Nat.le_of_ble_eq_true rfl) ?_
  show am_Ev G mX4_number (am_R (D + 1) 0 0) 0 0 (am_qI (.int (if q - p ≤ 4 then nI (lx_v b p (q - p)) else -23)) σ (fun τ => τ.2.1 38 3 = nI q)) 0 [(0, .ref 38)] [] σ 0 0
  have lp : ∀ (f : Nat) (c : Nat) (V : Int32) (σ1 : am_M), (p + c ≤ n) → (V = nI (lx_v b p (min c 4))) → (σ1.2.1 38 3 = nI (p + c)) → (lx_run lx_di b (n - (p + c)) (p + c) = q) → (fr_I σ σ1) → n - (p + c) < f → am_Ev G mX4_number (am_R (D + 1) 0 0) 0 0 (am_qI (.int (if q - p ≤ 4 then nI (lx_v b p (q - p)) else -23)) σ (fun τ => τ.2.1 38 3 = nI q)) 2 [(0, .ref 38), (1, .int V)] [] σ1 0 0 := by
    intro f
    induction f with
    | zero => intro c V σ1 han hV ha1 hr hF1 hf; exact absurd hf (Nat.not_lt_zero _)
    | succ f ih =>
      intro c V σ1 han hV ha1 hr hF1 hf
      refine ev_aload_n dX4_number_2 rfl rfl ?_
      refine ev_getI (v := nI (p + c)) dX4_number_3 fl_X4_34 ((hB.K hF1.J.K).1.1) ha1 ?_
      refine ev_aload_n dX4_number_6 rfl rfl ?_
      refine ev_getI (v := nI n) dX4_number_7 fl_X4_16 ((hB.K hF1.J.K).1.1) (hB.K hF1.J.K).2.1 ?_
      refine ev_icmp_ge (tgt := 70) dX4_number_10 (by decide) (fun c1 => ?_) (fun c1 => ?_)
      · skip
        have c1n : n ≤ (p + c) := (nI_leI (a := n) (b := (p + c)) (by omega) (by omega)).mp c1
        have e : p + c = q := by rw [← hr]; exact (lx_run0 (by omega)).symm
        have e2 : q - p = c := by omega
        refine ev_aload_n dX4_number_70 rfl rfl ?_
        refine ev_getI (v := nI (p + c)) dX4_number_71 fl_X4_34 ((hB.K hF1.J.K).1.1) ha1 ?_
        refine ev_aload_n dX4_number_74 rfl rfl ?_
        refine ev_getI (v := nI p) dX4_number_75 fl_X4_92 ((hB.K hF1.J.K).1.1) ((hF1.2.2 38 4 (by omega)).trans hp) ?_
        refine ev_isub (v := nI c) dX4_number_78 (by rw [pk_sub (Nat.le_add_right p c), Nat.add_sub_cancel_left]) ?_
        refine ev_iconst (v := 4) dX4_number_79 (by decide) ?_
        refine ev_icmp_le (tgt := 88) dX4_number_80 (by decide) (fun c2 => ?_) (fun c2 => ?_)
        · skip
          have c2n : c ≤ 4 := (nI_leI (a := c) (b := 4) (by omega) (by omega)).mp c2
          refine ev_iload_n dX4_number_88 rfl rfl ?_
          refine ev_reti dX4_number_89 rfl (Nat.zero_le _) (Nat.zero_le _) ?_
          exact ⟨by rw [e2, if_pos (by omega), hV, Nat.min_eq_left (by omega)], hF1, by rw [← e]; exact ha1⟩
        · skip
          have c2n : ¬ c ≤ 4 := fun zz => c2 ((nI_leI (a := c) (b := 4) (by omega) (by omega)).mpr zz)
          refine ev_bipush (v := (-23)) dX4_number_83 (by decide) ?_
          refine ev_goto (tgt := 89) dX4_number_85 (by decide) ?_
          refine ev_reti dX4_number_89 rfl (Nat.zero_le _) (Nat.zero_le _) ?_
          exact ⟨by rw [e2, if_neg (by omega)], hF1, by rw [← e]; exact ha1⟩
      · skip
        have c1n : ¬ n ≤ (p + c) := fun zz => c1 ((nI_leI (a := n) (b := (p + c)) (by omega) (by omega)).mpr zz)
        refine ev_aload_n dX4_number_13 rfl rfl ?_
        refine ev_aload_n dX4_number_14 rfl rfl ?_
        refine ev_getI (v := nI (p + c)) dX4_number_15 fl_X4_34 ((hB.K hF1.J.K).1.1) ha1 ?_
        refine ev_callV (as := [.int (nI (p + c))]) (st := []) dX4_number_18 mfX4_byteAt lk_X4_85 ((hB.K hF1.J.K).1.1) (by decide) rfl (c_X4_byteAt G D b n σ1 ((hB.K hF1.J.K)) (p + c) (by omega)) rfl rfl (Nat.le_of_ble_eq_true rfl) (am_hR (by omega) (by decide)) ⟨Nat.le_refl _, Nat.le_refl _⟩ ?_
        rintro _ _ ⟨rfl, rfl⟩
        refine ev_callS (as := [.int (b (p + c))]) (st := []) dX4_number_21 mfX4_isDigit lk_X4_101 (c_X4_isDigit G D σ1 (b (p + c))) rfl rfl (Nat.le_of_ble_eq_true rfl) (am_hR (by omega) (by decide)) ⟨Nat.le_refl _, Nat.le_refl _⟩ ?_
        rintro _ _ (⟨h3, rfl, rfl⟩ | ⟨h3, rfl, rfl⟩)
        · skip
          replace h3 := lx_diI.mpr h3
          refine ev_if_eq (tgt := 70) dX4_number_24 (by decide) (fun c => absurd c (by decide)) (fun _ => ?_)
          refine ev_aload_n dX4_number_27 rfl rfl ?_
          refine ev_getI (v := nI (p + c)) dX4_number_28 fl_X4_34 ((hB.K hF1.J.K).1.1) ha1 ?_
          refine ev_aload_n dX4_number_31 rfl rfl ?_
          refine ev_getI (v := nI p) dX4_number_32 fl_X4_92 ((hB.K hF1.J.K).1.1) ((hF1.2.2 38 4 (by omega)).trans hp) ?_
          refine ev_isub (v := nI c) dX4_number_35 (by rw [pk_sub (Nat.le_add_right p c), Nat.add_sub_cancel_left]) ?_
          refine ev_iconst (v := 4) dX4_number_36 (by decide) ?_
          refine ev_icmp_ge (tgt := 57) dX4_number_37 (by decide) (fun c4 => ?_) (fun c4 => ?_)
          · skip
            have c4n : 4 ≤ c := (nI_leI (a := 4) (b := c) (by omega) (by omega)).mp c4
            refine ev_aload_n dX4_number_57 rfl rfl ?_
            refine ev_dup dX4_number_58 rfl ?_
            refine ev_getI (v := nI (p + c)) dX4_number_59 fl_X4_34 ((hB.K hF1.J.K).1.1) ha1 ?_
            refine ev_iconst (v := 1) dX4_number_62 (by decide) ?_
            refine ev_iadd (v := nI (p + c + 1)) dX4_number_63 (nI_1 _) ?_
            refine ev_putI dX4_number_64 fl_X4_34 rfl rfl ((hB.K hF1.J.K).1.1) ?_
            refine ev_goto (tgt := 2) dX4_number_67 (by decide) ?_
            exact ih (c + 1) V (am_sI σ1 38 3 (nI (p + c + 1))) (by omega) (by rw [hV, show min (c + 1) 4 = min c 4 by omega]) am_rs ((lx_runS (by omega) h3).symm.trans hr) (fr_I.wr (by omega) hF1) (by omega)
          · skip
            have c4n : ¬ 4 ≤ c := fun zz => c4 ((nI_leI (a := 4) (b := c) (by omega) (by omega)).mpr zz)
            refine ev_bipush (v := 10) dX4_number_40 (by decide) ?_
            refine ev_iload_n dX4_number_42 rfl rfl ?_
            refine ev_imul (v := nI (10 * lx_v b p c)) dX4_number_43 (by rw [hV, Nat.min_eq_left (by omega)]; exact pk_mul 10 _) ?_
            refine ev_aload_n dX4_number_44 rfl rfl ?_
            refine ev_aload_n dX4_number_45 rfl rfl ?_
            refine ev_getI (v := nI (p + c)) dX4_number_46 fl_X4_34 ((hB.K hF1.J.K).1.1) ha1 ?_
            refine ev_callV (as := [.int (nI (p + c))]) (st := [.int (nI (10 * lx_v b p c))]) dX4_number_49 mfX4_byteAt lk_X4_85 ((hB.K hF1.J.K).1.1) (by decide) rfl (c_X4_byteAt G D b n σ1 ((hB.K hF1.J.K)) (p + c) (by omega)) rfl rfl (Nat.le_of_ble_eq_true rfl) (am_hR (by omega) (by decide)) ⟨Nat.le_refl _, Nat.le_refl _⟩ ?_
            rintro _ _ ⟨rfl, rfl⟩
            refine ev_iadd (v := nI (10 * lx_v b p c + sN (b (p + c)))) dX4_number_52 (lx_dA h3) ?_
            refine ev_bipush (v := 48) dX4_number_53 (by decide) ?_
            refine ev_isub (v := nI (10 * lx_v b p c + (sN (b (p + c)) - 48))) dX4_number_55 (lx_dS h3) ?_
            refine ev_istore_n (lv' := [(0, .ref 38), (1, .int (nI (10 * lx_v b p c + (sN (b (p + c)) - 48))))]) dX4_number_56 rfl (by decide) rfl ?_
            refine ev_aload_n dX4_number_57 rfl rfl ?_
            refine ev_dup dX4_number_58 rfl ?_
            refine ev_getI (v := nI (p + c)) dX4_number_59 fl_X4_34 ((hB.K hF1.J.K).1.1) ha1 ?_
            refine ev_iconst (v := 1) dX4_number_62 (by decide) ?_
            refine ev_iadd (v := nI (p + c + 1)) dX4_number_63 (nI_1 _) ?_
            refine ev_putI dX4_number_64 fl_X4_34 rfl rfl ((hB.K hF1.J.K).1.1) ?_
            refine ev_goto (tgt := 2) dX4_number_67 (by decide) ?_
            exact ih (c + 1) (nI (10 * lx_v b p c + (sN (b (p + c)) - 48))) (am_sI σ1 38 3 (nI (p + c + 1))) (by omega) (by rw [show min (c + 1) 4 = c + 1 by omega]; rfl) am_rs ((lx_runS (by omega) h3).symm.trans hr) (fr_I.wr (by omega) hF1) (by omega)
        · skip
          replace h3 := lx_Fa lx_diI h3
          refine ev_if_eq (tgt := 70) dX4_number_24 (by decide) (fun _ => ?_) (fun c => absurd (by decide) c)
          have e : p + c = q := by rw [← hr]; exact (lx_runE h3).symm
          have e2 : q - p = c := by omega
          refine ev_aload_n dX4_number_70 rfl rfl ?_
          refine ev_getI (v := nI (p + c)) dX4_number_71 fl_X4_34 ((hB.K hF1.J.K).1.1) ha1 ?_
          refine ev_aload_n dX4_number_74 rfl rfl ?_
          refine ev_getI (v := nI p) dX4_number_75 fl_X4_92 ((hB.K hF1.J.K).1.1) ((hF1.2.2 38 4 (by omega)).trans hp) ?_
          refine ev_isub (v := nI c) dX4_number_78 (by rw [pk_sub (Nat.le_add_right p c), Nat.add_sub_cancel_left]) ?_
          refine ev_iconst (v := 4) dX4_number_79 (by decide) ?_
          refine ev_icmp_le (tgt := 88) dX4_number_80 (by decide) (fun c5 => ?_) (fun c5 => ?_)
          · skip
            have c5n : c ≤ 4 := (nI_leI (a := c) (b := 4) (by omega) (by omega)).mp c5
            refine ev_iload_n dX4_number_88 rfl rfl ?_
            refine ev_reti dX4_number_89 rfl (Nat.zero_le _) (Nat.zero_le _) ?_
            exact ⟨by rw [e2, if_pos (by omega), hV, Nat.min_eq_left (by omega)], hF1, by rw [← e]; exact ha1⟩
          · skip
            have c5n : ¬ c ≤ 4 := fun zz => c5 ((nI_leI (a := c) (b := 4) (by omega) (by omega)).mpr zz)
            refine ev_bipush (v := (-23)) dX4_number_83 (by decide) ?_
            refine ev_goto (tgt := 89) dX4_number_85 (by decide) ?_
            refine ev_reti dX4_number_89 rfl (Nat.zero_le _) (Nat.zero_le _) ?_
            exact ⟨by rw [e2, if_neg (by omega)], hF1, by rw [← e]; exact ha1⟩
  refine ev_iconst (v := 0) dX4_number_0 (by decide) ?_
  refine ev_istore_n (lv' := [(0, .ref 38), (1, .int 0)]) dX4_number_1 rfl (by decide) rfl ?_
  exact lp _ 0 0 σ (Nat.le_of_lt hpn) rfl ha hq.symm fr_I.rf (Nat.lt_succ_self _)

/-- the token that stands ahead -/
def tk_X (σ : am_M) (t : lx_T) : Prop := σ.2.1 38 5 = t.1 ∧ σ.2.1 38 4 = nI t.2.1 ∧ σ.2.1 38 3 = nI t.2.2
def am_qN (b : Nat → Int32) (n s : Nat) (σ0 : am_M) : Option Value → am_M → Prop := fun r σ' => r = none ∧ fr_J σ0 σ' ∧ tk_X σ' (lx_nx b n s)
set_option maxHeartbeats 400000 in
set_option maxRecDepth 100000 in
theorem c_X4_next (G : am_G) (D : Nat) (b : Nat → Int32) (n : Nat) (σ : am_M) (hB : tb_T b n σ) (s : Nat) (hs : s ≤ n) (ha : σ.2.1 38 3 = nI s) : am_Mt G (D + 6) mX4_next [.ref 38] σ 0 0 (am_qN b n s σ) := by
  have h160 := hB.2.2.1
  refine am_of moX4_next (Nat.le_of_ble_eq_true rfl) ?_
  show am_Ev G mX4_next (am_R (D + 6) 0 0) 0 0 (am_qN b n s σ) 0 [(0, .ref 38)] [] σ 0 0
  have lp : ∀ (f : Nat) (a : Nat) (σ1 : am_M), (a ≤ n) → (σ1.2.1 38 3 = nI a) → (lx_run lx_bl b (n - a) a = lx_run lx_bl b (n - s) s) → (fr_J σ σ1) → n - a < f → am_Ev G mX4_next (am_R (D + 6) 0 0) 0 0 (am_qN b n s σ) 0 [(0, .ref 38)] [] σ1 0 0 := by
    intro f
    induction f with
    | zero => intro a σ1 han ha1 hr hF1 hf; exact absurd hf (Nat.not_lt_zero _)
    | succ f ih =>
      intro a σ1 han ha1 hr hF1 hf
      refine ev_aload_n dX4_next_0 rfl rfl ?_
      refine ev_getI (v := nI a) dX4_next_1 fl_X4_34 ((hB.K hF1.K).1.1) ha1 ?_
      refine ev_aload_n dX4_next_4 rfl rfl ?_
      refine ev_getI (v := nI n) dX4_next_5 fl_X4_16 ((hB.K hF1.K).1.1) (hB.K hF1.K).2.1 ?_
      refine ev_icmp_ge (tgt := 38) dX4_next_8 (by decide) (fun c1 => ?_) (fun c1 => ?_)
      · skip
        have c1n : n ≤ a := (nI_leI (a := n) (b := a) (by omega) (by omega)).mp c1
        have e : lx_nx b n s = lx_at b n a := by unfold lx_nx; rw [← hr, show lx_run lx_bl b (n - a) a = a from (lx_run0 (by omega))]
        refine ev_aload_n dX4_next_38 rfl rfl ?_
        refine ev_aload_n dX4_next_39 rfl rfl ?_
        refine ev_getI (v := nI a) dX4_next_40 fl_X4_34 ((hB.K hF1.K).1.1) ha1 ?_
        refine ev_putI dX4_next_43 fl_X4_92 rfl rfl ((hB.K hF1.K).1.1) ?_
        refine ev_aload_n dX4_next_46 rfl rfl ?_
        refine ev_getI (v := nI a) dX4_next_47 fl_X4_34 ((hB.K hF1.K).1.1) (am_ru (by omega) ha1) ?_
        refine ev_aload_n dX4_next_50 rfl rfl ?_
        refine ev_getI (v := nI n) dX4_next_51 fl_X4_16 ((hB.K hF1.K).1.1) (am_ru (by omega) (hB.K hF1.K).2.1) ?_
        refine ev_icmp_lt (tgt := 66) dX4_next_54 (by decide) (fun c2 => ?_) (fun c2 => ?_)
        · skip
          have c2n : a < n := (nI_ltI (a := a) (b := n) (by omega) (by omega)).mp c2
          refine ev_aload_n dX4_next_66 rfl rfl ?_
          refine ev_aload_n dX4_next_67 rfl rfl ?_
          refine ev_getI (v := nI a) dX4_next_68 fl_X4_34 ((hB.K hF1.K).1.1) (am_ru (by omega) ha1) ?_
          refine ev_callV (as := [.int (nI a)]) (st := []) dX4_next_71 mfX4_byteAt lk_X4_85 ((hB.K hF1.K).1.1) (by decide) rfl (c_X4_byteAt G (D + 5) b n (am_sI σ1 38 4 (nI a)) (hB.K (fr_J.K (fr_J.wr (by omega) hF1))) a (by omega)) rfl rfl (Nat.le_of_ble_eq_true rfl) (am_hR (by omega) (by decide)) ⟨Nat.le_refl _, Nat.le_refl _⟩ ?_
          rintro _ _ ⟨rfl, rfl⟩
          refine ev_callS (as := [.int (b a)]) (st := []) dX4_next_74 mfX4_isLetter lk_X4_95 (c_X4_isLetter G (D + 5) (am_sI σ1 38 4 (nI a)) (b a)) rfl rfl (Nat.le_of_ble_eq_true rfl) (am_hR (by omega) (by decide)) ⟨Nat.le_refl _, Nat.le_refl _⟩ ?_
          rintro _ _ (⟨h3, rfl, rfl⟩ | ⟨h3, rfl, rfl⟩)
          · skip
            replace h3 := lx_leI.mpr h3
            refine ev_if_eq (tgt := 91) dX4_next_77 (by decide) (fun c => absurd c (by decide)) (fun _ => ?_)
            refine ev_aload_n dX4_next_80 rfl rfl ?_
            refine ev_aload_n dX4_next_81 rfl rfl ?_
            refine ev_callV (as := []) (st := [.ref 38]) dX4_next_82 mfX4_word lk_X4_98 ((hB.K hF1.K).1.1) (by decide) rfl (c_X4_word G D b n (am_sI σ1 38 4 (nI a)) (hB.K (fr_J.K (fr_J.wr (by omega) hF1))) a _ (by omega) am_rs (am_ru (by omega) ha1) rfl) rfl rfl (Nat.le_of_ble_eq_true rfl) (am_hR (by omega) (by decide)) ⟨Nat.le_refl _, Nat.le_refl _⟩ ?_
            rintro _ σ4 ⟨rfl, hF4, hp4⟩
            have hFF4 : fr_J σ σ4 := fr_J.tr (fr_J.wr (by omega) hF1) hF4.J
            refine ev_putI dX4_next_85 fl_X4_47 rfl rfl ((hB.K hFF4.K).1.1) ?_
            refine ev_goto (tgt := 141) dX4_next_88 (by decide) ?_
            refine ev_retv dX4_next_141 rfl (Nat.zero_le _) (Nat.zero_le _) ?_
            refine ⟨rfl, (fr_J.wr (by omega) (fr_J.tr (fr_J.wr (by omega) hF1) hF4.J)), ?_⟩
            rw [e]
            have e3 : lx_at b n a = (lx_tw (lx_wi b a (lx_run lx_le b (n - a) a)), a, lx_run lx_le b (n - a) a) := by unfold lx_at; rw [if_neg (by omega), h3, if_pos rfl]
            rw [e3]
            exact ⟨am_rs, (am_ru (by omega) ((hF4.2.2 38 4 (by omega)).trans am_rs)), (am_ru (by omega) hp4)⟩
          · skip
            replace h3 := lx_Fa lx_leI h3
            refine ev_if_eq (tgt := 91) dX4_next_77 (by decide) (fun _ => ?_) (fun c => absurd (by decide) c)
            refine ev_aload_n dX4_next_91 rfl rfl ?_
            refine ev_aload_n dX4_next_92 rfl rfl ?_
            refine ev_getI (v := nI a) dX4_next_93 fl_X4_34 ((hB.K hF1.K).1.1) (am_ru (by omega) ha1) ?_
            refine ev_callV (as := [.int (nI a)]) (st := []) dX4_next_96 mfX4_byteAt lk_X4_85 ((hB.K hF1.K).1.1) (by decide) rfl (c_X4_byteAt G (D + 5) b n (am_sI σ1 38 4 (nI a)) (hB.K (fr_J.K (fr_J.wr (by omega) hF1))) a (by omega)) rfl rfl (Nat.le_of_ble_eq_true rfl) (am_hR (by omega) (by decide)) ⟨Nat.le_refl _, Nat.le_refl _⟩ ?_
            rintro _ _ ⟨rfl, rfl⟩
            refine ev_callS (as := [.int (b a)]) (st := []) dX4_next_99 mfX4_isDigit lk_X4_101 (c_X4_isDigit G (D + 5) (am_sI σ1 38 4 (nI a)) (b a)) rfl rfl (Nat.le_of_ble_eq_true rfl) (am_hR (by omega) (by decide)) ⟨Nat.le_refl _, Nat.le_refl _⟩ ?_
            rintro _ _ (⟨h5, rfl, rfl⟩ | ⟨h5, rfl, rfl⟩)
            · skip
              replace h5 := lx_diI.mpr h5
              refine ev_if_eq (tgt := 116) dX4_next_102 (by decide) (fun c => absurd c (by decide)) (fun _ => ?_)
              refine ev_aload_n dX4_next_105 rfl rfl ?_
              refine ev_aload_n dX4_next_106 rfl rfl ?_
              refine ev_callV (as := []) (st := [.ref 38]) dX4_next_107 mfX4_number lk_X4_104 ((hB.K hF1.K).1.1) (by decide) rfl (c_X4_number G (D + 4) b n (am_sI σ1 38 4 (nI a)) (hB.K (fr_J.K (fr_J.wr (by omega) hF1))) a _ (by omega) am_rs (am_ru (by omega) ha1) rfl) rfl rfl (Nat.le_of_ble_eq_true rfl) (am_hR (by omega) (by decide)) ⟨Nat.le_refl _, Nat.le_refl _⟩ ?_
              rintro _ σ6 ⟨rfl, hF6, hp6⟩
              have hFF6 : fr_J σ σ6 := fr_J.tr (fr_J.wr (by omega) hF1) hF6.J
              refine ev_putI dX4_next_110 fl_X4_47 rfl rfl ((hB.K hFF6.K).1.1) ?_
              refine ev_goto (tgt := 141) dX4_next_113 (by decide) ?_
              refine ev_retv dX4_next_141 rfl (Nat.zero_le _) (Nat.zero_le _) ?_
              refine ⟨rfl, (fr_J.wr (by omega) (fr_J.tr (fr_J.wr (by omega) hF1) hF6.J)), ?_⟩
              rw [e]
              have e3 : lx_at b n a = (if lx_run lx_di b (n - a) a - a ≤ 4 then nI (lx_v b a (lx_run lx_di b (n - a) a - a)) else -23, a, lx_run lx_di b (n - a) a) := by unfold lx_at; rw [if_neg (by omega), h3, if_neg (by decide), h5, if_pos rfl]
              rw [e3]
              exact ⟨am_rs, (am_ru (by omega) ((hF6.2.2 38 4 (by omega)).trans am_rs)), (am_ru (by omega) hp6)⟩
            · skip
              replace h5 := lx_Fa lx_diI h5
              refine ev_if_eq (tgt := 116) dX4_next_102 (by decide) (fun _ => ?_) (fun c => absurd (by decide) c)
              refine ev_aload_n dX4_next_116 rfl rfl ?_
              refine ev_aload_n dX4_next_117 rfl rfl ?_
              refine ev_aload_n dX4_next_118 rfl rfl ?_
              refine ev_getI (v := nI a) dX4_next_119 fl_X4_34 ((hB.K hF1.K).1.1) (am_ru (by omega) ha1) ?_
              refine ev_callV (as := [.int (nI a)]) (st := [.ref 38]) dX4_next_122 mfX4_byteAt lk_X4_85 ((hB.K hF1.K).1.1) (by decide) rfl (c_X4_byteAt G (D + 5) b n (am_sI σ1 38 4 (nI a)) (hB.K (fr_J.K (fr_J.wr (by omega) hF1))) a (by omega)) rfl rfl (Nat.le_of_ble_eq_true rfl) (am_hR (by omega) (by decide)) ⟨Nat.le_refl _, Nat.le_refl _⟩ ?_
              rintro _ _ ⟨rfl, rfl⟩
              refine ev_callS (as := [.int (b a)]) (st := [.ref 38]) dX4_next_125 mfX4_sign lk_X4_107 (c_X4_sign G (D + 5) (am_sI σ1 38 4 (nI a)) (b a)) rfl rfl (Nat.le_of_ble_eq_true rfl) (am_hR (by omega) (by decide)) ⟨Nat.le_refl _, Nat.le_refl _⟩ ?_
              rintro _ _ ⟨rfl, rfl⟩
              refine ev_putI dX4_next_128 fl_X4_47 rfl rfl ((hB.K hF1.K).1.1) ?_
              refine ev_aload_n dX4_next_131 rfl rfl ?_
              refine ev_dup dX4_next_132 rfl ?_
              refine ev_getI (v := nI a) dX4_next_133 fl_X4_34 ((hB.K hF1.K).1.1) (am_ru (by omega) (am_ru (by omega) ha1)) ?_
              refine ev_iconst (v := 1) dX4_next_136 (by decide) ?_
              refine ev_iadd (v := nI (a + 1)) dX4_next_137 (nI_1 _) ?_
              refine ev_putI dX4_next_138 fl_X4_34 rfl rfl ((hB.K hF1.K).1.1) ?_
              refine ev_retv dX4_next_141 rfl (Nat.zero_le _) (Nat.zero_le _) ?_
              refine ⟨rfl, (fr_J.wr (by omega) (fr_J.wr (by omega) (fr_J.wr (by omega) hF1))), ?_⟩
              rw [e]
              have e3 : lx_at b n a = (s_sg (b a), a, a + 1) := by unfold lx_at; rw [if_neg (by omega), h3, if_neg (by decide), h5, if_neg (by decide)]
              rw [e3]
              exact ⟨(am_ru (by omega) am_rs), (am_ru (by omega) (am_ru (by omega) am_rs)), am_rs⟩
        · skip
          have c2n : ¬ a < n := fun zz => c2 ((nI_ltI (a := a) (b := n) (by omega) (by omega)).mpr zz)
          refine ev_aload_n dX4_next_57 rfl rfl ?_
          refine ev_bipush (v := (-22)) dX4_next_58 (by decide) ?_
          refine ev_putI dX4_next_60 fl_X4_47 rfl rfl ((hB.K hF1.K).1.1) ?_
          refine ev_goto (tgt := 141) dX4_next_63 (by decide) ?_
          refine ev_retv dX4_next_141 rfl (Nat.zero_le _) (Nat.zero_le _) ?_
          refine ⟨rfl, (fr_J.wr (by omega) (fr_J.wr (by omega) hF1)), ?_⟩
          rw [e]
          have e3 : lx_at b n a = ((-22), a, a) := by unfold lx_at; rw [if_pos (by omega)]
          rw [e3]
          exact ⟨am_rs, (am_ru (by omega) am_rs), (am_ru (by omega) (am_ru (by omega) ha1))⟩
      · skip
        have c1n : ¬ n ≤ a := fun zz => c1 ((nI_leI (a := n) (b := a) (by omega) (by omega)).mpr zz)
        refine ev_aload_n dX4_next_11 rfl rfl ?_
        refine ev_aload_n dX4_next_12 rfl rfl ?_
        refine ev_getI (v := nI a) dX4_next_13 fl_X4_34 ((hB.K hF1.K).1.1) ha1 ?_
        refine ev_callV (as := [.int (nI a)]) (st := []) dX4_next_16 mfX4_byteAt lk_X4_85 ((hB.K hF1.K).1.1) (by decide) rfl (c_X4_byteAt G (D + 5) b n σ1 (hB.K (fr_J.K hF1)) a (by omega)) rfl rfl (Nat.le_of_ble_eq_true rfl) (am_hR (by omega) (by decide)) ⟨Nat.le_refl _, Nat.le_refl _⟩ ?_
        rintro _ _ ⟨rfl, rfl⟩
        refine ev_callS (as := [.int (b a)]) (st := []) dX4_next_19 mfX4_isBlank lk_X4_89 (c_X4_isBlank G (D + 5) σ1 (b a)) rfl rfl (Nat.le_of_ble_eq_true rfl) (am_hR (by omega) (by decide)) ⟨Nat.le_refl _, Nat.le_refl _⟩ ?_
        rintro _ _ (⟨h7, rfl, rfl⟩ | ⟨h7, rfl, rfl⟩)
        · skip
          replace h7 := lx_blI.mpr h7
          refine ev_if_eq (tgt := 38) dX4_next_22 (by decide) (fun c => absurd c (by decide)) (fun _ => ?_)
          refine ev_aload_n dX4_next_25 rfl rfl ?_
          refine ev_dup dX4_next_26 rfl ?_
          refine ev_getI (v := nI a) dX4_next_27 fl_X4_34 ((hB.K hF1.K).1.1) ha1 ?_
          refine ev_iconst (v := 1) dX4_next_30 (by decide) ?_
          refine ev_iadd (v := nI (a + 1)) dX4_next_31 (nI_1 _) ?_
          refine ev_putI dX4_next_32 fl_X4_34 rfl rfl ((hB.K hF1.K).1.1) ?_
          refine ev_goto (tgt := 0) dX4_next_35 (by decide) ?_
          exact ih (a + 1) (am_sI σ1 38 3 (nI (a + 1))) (by omega) am_rs ((lx_runS (by omega) h7).symm.trans hr) (fr_J.wr (by omega) hF1) (by omega)
        · skip
          replace h7 := lx_Fa lx_blI h7
          refine ev_if_eq (tgt := 38) dX4_next_22 (by decide) (fun _ => ?_) (fun c => absurd (by decide) c)
          have e : lx_nx b n s = lx_at b n a := by unfold lx_nx; rw [← hr, show lx_run lx_bl b (n - a) a = a from (lx_runE h7)]
          refine ev_aload_n dX4_next_38 rfl rfl ?_
          refine ev_aload_n dX4_next_39 rfl rfl ?_
          refine ev_getI (v := nI a) dX4_next_40 fl_X4_34 ((hB.K hF1.K).1.1) ha1 ?_
          refine ev_putI dX4_next_43 fl_X4_92 rfl rfl ((hB.K hF1.K).1.1) ?_
          refine ev_aload_n dX4_next_46 rfl rfl ?_
          refine ev_getI (v := nI a) dX4_next_47 fl_X4_34 ((hB.K hF1.K).1.1) (am_ru (by omega) ha1) ?_
          refine ev_aload_n dX4_next_50 rfl rfl ?_
          refine ev_getI (v := nI n) dX4_next_51 fl_X4_16 ((hB.K hF1.K).1.1) (am_ru (by omega) (hB.K hF1.K).2.1) ?_
          refine ev_icmp_lt (tgt := 66) dX4_next_54 (by decide) (fun c8 => ?_) (fun c8 => ?_)
          · skip
            have c8n : a < n := (nI_ltI (a := a) (b := n) (by omega) (by omega)).mp c8
            refine ev_aload_n dX4_next_66 rfl rfl ?_
            refine ev_aload_n dX4_next_67 rfl rfl ?_
            refine ev_getI (v := nI a) dX4_next_68 fl_X4_34 ((hB.K hF1.K).1.1) (am_ru (by omega) ha1) ?_
            refine ev_callV (as := [.int (nI a)]) (st := []) dX4_next_71 mfX4_byteAt lk_X4_85 ((hB.K hF1.K).1.1) (by decide) rfl (c_X4_byteAt G (D + 5) b n (am_sI σ1 38 4 (nI a)) (hB.K (fr_J.K (fr_J.wr (by omega) hF1))) a (by omega)) rfl rfl (Nat.le_of_ble_eq_true rfl) (am_hR (by omega) (by decide)) ⟨Nat.le_refl _, Nat.le_refl _⟩ ?_
            rintro _ _ ⟨rfl, rfl⟩
            refine ev_callS (as := [.int (b a)]) (st := []) dX4_next_74 mfX4_isLetter lk_X4_95 (c_X4_isLetter G (D + 5) (am_sI σ1 38 4 (nI a)) (b a)) rfl rfl (Nat.le_of_ble_eq_true rfl) (am_hR (by omega) (by decide)) ⟨Nat.le_refl _, Nat.le_refl _⟩ ?_
            rintro _ _ (⟨h9, rfl, rfl⟩ | ⟨h9, rfl, rfl⟩)
            · skip
              replace h9 := lx_leI.mpr h9
              refine ev_if_eq (tgt := 91) dX4_next_77 (by decide) (fun c => absurd c (by decide)) (fun _ => ?_)
              refine ev_aload_n dX4_next_80 rfl rfl ?_
              refine ev_aload_n dX4_next_81 rfl rfl ?_
              refine ev_callV (as := []) (st := [.ref 38]) dX4_next_82 mfX4_word lk_X4_98 ((hB.K hF1.K).1.1) (by decide) rfl (c_X4_word G D b n (am_sI σ1 38 4 (nI a)) (hB.K (fr_J.K (fr_J.wr (by omega) hF1))) a _ (by omega) am_rs (am_ru (by omega) ha1) rfl) rfl rfl (Nat.le_of_ble_eq_true rfl) (am_hR (by omega) (by decide)) ⟨Nat.le_refl _, Nat.le_refl _⟩ ?_
              rintro _ σ10 ⟨rfl, hF10, hp10⟩
              have hFF10 : fr_J σ σ10 := fr_J.tr (fr_J.wr (by omega) hF1) hF10.J
              refine ev_putI dX4_next_85 fl_X4_47 rfl rfl ((hB.K hFF10.K).1.1) ?_
              refine ev_goto (tgt := 141) dX4_next_88 (by decide) ?_
              refine ev_retv dX4_next_141 rfl (Nat.zero_le _) (Nat.zero_le _) ?_
              refine ⟨rfl, (fr_J.wr (by omega) (fr_J.tr (fr_J.wr (by omega) hF1) hF10.J)), ?_⟩
              rw [e]
              have e3 : lx_at b n a = (lx_tw (lx_wi b a (lx_run lx_le b (n - a) a)), a, lx_run lx_le b (n - a) a) := by unfold lx_at; rw [if_neg (by omega), h9, if_pos rfl]
              rw [e3]
              exact ⟨am_rs, (am_ru (by omega) ((hF10.2.2 38 4 (by omega)).trans am_rs)), (am_ru (by omega) hp10)⟩
            · skip
              replace h9 := lx_Fa lx_leI h9
              refine ev_if_eq (tgt := 91) dX4_next_77 (by decide) (fun _ => ?_) (fun c => absurd (by decide) c)
              refine ev_aload_n dX4_next_91 rfl rfl ?_
              refine ev_aload_n dX4_next_92 rfl rfl ?_
              refine ev_getI (v := nI a) dX4_next_93 fl_X4_34 ((hB.K hF1.K).1.1) (am_ru (by omega) ha1) ?_
              refine ev_callV (as := [.int (nI a)]) (st := []) dX4_next_96 mfX4_byteAt lk_X4_85 ((hB.K hF1.K).1.1) (by decide) rfl (c_X4_byteAt G (D + 5) b n (am_sI σ1 38 4 (nI a)) (hB.K (fr_J.K (fr_J.wr (by omega) hF1))) a (by omega)) rfl rfl (Nat.le_of_ble_eq_true rfl) (am_hR (by omega) (by decide)) ⟨Nat.le_refl _, Nat.le_refl _⟩ ?_
              rintro _ _ ⟨rfl, rfl⟩
              refine ev_callS (as := [.int (b a)]) (st := []) dX4_next_99 mfX4_isDigit lk_X4_101 (c_X4_isDigit G (D + 5) (am_sI σ1 38 4 (nI a)) (b a)) rfl rfl (Nat.le_of_ble_eq_true rfl) (am_hR (by omega) (by decide)) ⟨Nat.le_refl _, Nat.le_refl _⟩ ?_
              rintro _ _ (⟨h11, rfl, rfl⟩ | ⟨h11, rfl, rfl⟩)
              · skip
                replace h11 := lx_diI.mpr h11
                refine ev_if_eq (tgt := 116) dX4_next_102 (by decide) (fun c => absurd c (by decide)) (fun _ => ?_)
                refine ev_aload_n dX4_next_105 rfl rfl ?_
                refine ev_aload_n dX4_next_106 rfl rfl ?_
                refine ev_callV (as := []) (st := [.ref 38]) dX4_next_107 mfX4_number lk_X4_104 ((hB.K hF1.K).1.1) (by decide) rfl (c_X4_number G (D + 4) b n (am_sI σ1 38 4 (nI a)) (hB.K (fr_J.K (fr_J.wr (by omega) hF1))) a _ (by omega) am_rs (am_ru (by omega) ha1) rfl) rfl rfl (Nat.le_of_ble_eq_true rfl) (am_hR (by omega) (by decide)) ⟨Nat.le_refl _, Nat.le_refl _⟩ ?_
                rintro _ σ12 ⟨rfl, hF12, hp12⟩
                have hFF12 : fr_J σ σ12 := fr_J.tr (fr_J.wr (by omega) hF1) hF12.J
                refine ev_putI dX4_next_110 fl_X4_47 rfl rfl ((hB.K hFF12.K).1.1) ?_
                refine ev_goto (tgt := 141) dX4_next_113 (by decide) ?_
                refine ev_retv dX4_next_141 rfl (Nat.zero_le _) (Nat.zero_le _) ?_
                refine ⟨rfl, (fr_J.wr (by omega) (fr_J.tr (fr_J.wr (by omega) hF1) hF12.J)), ?_⟩
                rw [e]
                have e3 : lx_at b n a = (if lx_run lx_di b (n - a) a - a ≤ 4 then nI (lx_v b a (lx_run lx_di b (n - a) a - a)) else -23, a, lx_run lx_di b (n - a) a) := by unfold lx_at; rw [if_neg (by omega), h9, if_neg (by decide), h11, if_pos rfl]
                rw [e3]
                exact ⟨am_rs, (am_ru (by omega) ((hF12.2.2 38 4 (by omega)).trans am_rs)), (am_ru (by omega) hp12)⟩
              · skip
                replace h11 := lx_Fa lx_diI h11
                refine ev_if_eq (tgt := 116) dX4_next_102 (by decide) (fun _ => ?_) (fun c => absurd (by decide) c)
                refine ev_aload_n dX4_next_116 rfl rfl ?_
                refine ev_aload_n dX4_next_117 rfl rfl ?_
                refine ev_aload_n dX4_next_118 rfl rfl ?_
                refine ev_getI (v := nI a) dX4_next_119 fl_X4_34 ((hB.K hF1.K).1.1) (am_ru (by omega) ha1) ?_
                refine ev_callV (as := [.int (nI a)]) (st := [.ref 38]) dX4_next_122 mfX4_byteAt lk_X4_85 ((hB.K hF1.K).1.1) (by decide) rfl (c_X4_byteAt G (D + 5) b n (am_sI σ1 38 4 (nI a)) (hB.K (fr_J.K (fr_J.wr (by omega) hF1))) a (by omega)) rfl rfl (Nat.le_of_ble_eq_true rfl) (am_hR (by omega) (by decide)) ⟨Nat.le_refl _, Nat.le_refl _⟩ ?_
                rintro _ _ ⟨rfl, rfl⟩
                refine ev_callS (as := [.int (b a)]) (st := [.ref 38]) dX4_next_125 mfX4_sign lk_X4_107 (c_X4_sign G (D + 5) (am_sI σ1 38 4 (nI a)) (b a)) rfl rfl (Nat.le_of_ble_eq_true rfl) (am_hR (by omega) (by decide)) ⟨Nat.le_refl _, Nat.le_refl _⟩ ?_
                rintro _ _ ⟨rfl, rfl⟩
                refine ev_putI dX4_next_128 fl_X4_47 rfl rfl ((hB.K hF1.K).1.1) ?_
                refine ev_aload_n dX4_next_131 rfl rfl ?_
                refine ev_dup dX4_next_132 rfl ?_
                refine ev_getI (v := nI a) dX4_next_133 fl_X4_34 ((hB.K hF1.K).1.1) (am_ru (by omega) (am_ru (by omega) ha1)) ?_
                refine ev_iconst (v := 1) dX4_next_136 (by decide) ?_
                refine ev_iadd (v := nI (a + 1)) dX4_next_137 (nI_1 _) ?_
                refine ev_putI dX4_next_138 fl_X4_34 rfl rfl ((hB.K hF1.K).1.1) ?_
                refine ev_retv dX4_next_141 rfl (Nat.zero_le _) (Nat.zero_le _) ?_
                refine ⟨rfl, (fr_J.wr (by omega) (fr_J.wr (by omega) (fr_J.wr (by omega) hF1))), ?_⟩
                rw [e]
                have e3 : lx_at b n a = (s_sg (b a), a, a + 1) := by unfold lx_at; rw [if_neg (by omega), h9, if_neg (by decide), h11, if_neg (by decide)]
                rw [e3]
                exact ⟨(am_ru (by omega) am_rs), (am_ru (by omega) (am_ru (by omega) am_rs)), am_rs⟩
          · skip
            have c8n : ¬ a < n := fun zz => c8 ((nI_ltI (a := a) (b := n) (by omega) (by omega)).mpr zz)
            refine ev_aload_n dX4_next_57 rfl rfl ?_
            refine ev_bipush (v := (-22)) dX4_next_58 (by decide) ?_
            refine ev_putI dX4_next_60 fl_X4_47 rfl rfl ((hB.K hF1.K).1.1) ?_
            refine ev_goto (tgt := 141) dX4_next_63 (by decide) ?_
            refine ev_retv dX4_next_141 rfl (Nat.zero_le _) (Nat.zero_le _) ?_
            refine ⟨rfl, (fr_J.wr (by omega) (fr_J.wr (by omega) hF1)), ?_⟩
            rw [e]
            have e3 : lx_at b n a = ((-22), a, a) := by unfold lx_at; rw [if_pos (by omega)]
            rw [e3]
            exact ⟨am_rs, (am_ru (by omega) am_rs), (am_ru (by omega) (am_ru (by omega) ha1))⟩
  exact lp _ s σ hs ha rfl fr_J.rf (Nat.lt_succ_self _)

