/-! the layout: what lies at the first addresses; the abstract state is what the reference holds -/
abbrev am_S : Type := Nat → Nat → Int32
def ly_K : List (Nat × Nat) := [(999, 0), (999, 0), (999, 0), (999, 0), (999, 0), (999, 0), (999, 0), (999, 0), (999, 0), (999, 0), (999, 0), (999, 0), (999, 0), (999, 0), (999, 0), (999, 0), (999, 0), (999, 0), (999, 0), (999, 0), (999, 0), (999, 0), (999, 0), (999, 0), (999, 0), (999, 0), (999, 0), (999, 0), (999, 0), (999, 0), (999, 0), (999, 0), (6, 16), (11, 7), (10, 8), (10, 8), (10, 3), (12, 6), (4, 7), (10, 160), (10, 160), (13, 4), (3, 3), (10, 40), (3, 3), (10, 40), (3, 3), (10, 40), (3, 3), (10, 40), (2, 7), (10, 28), (10, 7), (10, 3), (0, 5), (10, 56), (10, 8), (10, 8), (10, 6), (10, 3), (10, 28), (10, 6), (5, 4), (10, 7), (10, 32), (7, 39), (10, 7), (10, 7), (10, 7), (10, 7), (10, 28), (10, 8), (10, 8), (10, 3), (10, 160), (10, 1200), (10, 24), (10, 7), (10, 28), (10, 3), (10, 4), (10, 4), (10, 160), (10, 50), (10, 96), (10, 200), (10, 200), (10, 6), (10, 28)]
def ly_R : List (Nat × Nat × Nat) := [(32, 0, 33), (32, 1, 34), (32, 2, 35), (32, 3, 36), (32, 4, 37), (32, 5, 38), (32, 6, 41), (32, 7, 50), (32, 8, 54), (32, 9, 59), (32, 10, 60), (32, 11, 61), (38, 0, 39), (38, 1, 40), (41, 0, 42), (41, 1, 44), (41, 2, 46), (41, 3, 48), (42, 0, 43), (44, 0, 45), (46, 0, 47), (48, 0, 49), (50, 0, 51), (50, 1, 52), (50, 2, 53), (54, 0, 55), (54, 1, 56), (54, 2, 57), (54, 3, 58), (65, 1, 66), (65, 2, 67), (65, 3, 68), (65, 4, 69), (65, 5, 70), (65, 7, 71), (65, 8, 72), (65, 9, 73), (65, 10, 74), (65, 12, 75), (65, 13, 76), (65, 20, 77), (65, 21, 78), (65, 22, 79), (65, 23, 80), (65, 24, 81), (65, 25, 82), (65, 26, 83), (65, 31, 84), (65, 32, 85), (65, 36, 86), (65, 37, 87), (65, 38, 88)]
def ly_ok (σ : am_M) : Prop := (∀ (a : Nat) (k : Nat × Nat), ly_K[a]? = some k → σ.1[a]? = some k) ∧ ∀ (i : Nat) (q : Nat × Nat × Nat), ly_R[i]? = some q → σ.2.2 q.1 q.2.1 = some q.2.2
theorem ly_k {σ : am_M} (h : ly_ok σ) (a : Nat) {k : Nat × Nat} (hk : ly_K[a]? = some k) : σ.1[a]? = some k := h.1 a k hk
theorem ly_r {σ : am_M} (h : ly_ok σ) (i : Nat) {a f b : Nat} (hk : ly_R[i]? = some (a, f, b)) : σ.2.2 a f = some b := h.2 i (a, f, b) hk
/-- what of the reference's cells counts -/
def am_rel (a i : Nat) : Bool := (Nat.beq a 65 && !(Nat.beq i 27 || Nat.beq i 28 || Nat.beq i 29 || Nat.beq i 30 || Nat.beq i 33 || Nat.beq i 34 || Nat.beq i 35)) || (Nat.ble 66 a && Nat.ble a 84)
def iv_M (A : am_S) (σ : am_M) : Prop := ly_ok σ ∧ ∀ a i, am_rel a i = true → σ.2.1 a i = A a i
theorem iv_M.ly {A : am_S} {σ : am_M} (h : iv_M A σ) : ly_ok σ := h.1
theorem iv_M.rd {A : am_S} {σ : am_M} (h : iv_M A σ) (a i : Nat) (hr : am_rel a i = true) : σ.2.1 a i = A a i := h.2 a i hr
theorem iv_M.up {A : am_S} {σ : am_M} {a k : Nat} {v : Int32} (h : iv_M A σ) : iv_M (am_up A a k v) (am_sI σ a k v) := by
  refine ⟨h.1, fun x y hr => ?_⟩
  show am_up σ.2.1 a k v x y = am_up A a k v x y
  unfold am_up
  rw [h.2 x y hr]
theorem iv_M.sc {A : am_S} {σ : am_M} {a k : Nat} {v : Int32} (hn : am_rel a k = false) (h : iv_M A σ) : iv_M A (am_sI σ a k v) := by
  refine ⟨h.1, fun x y hr => ?_⟩
  show am_up σ.2.1 a k v x y = A x y
  unfold am_up
  by_cases e : x = a ∧ y = k
  · obtain ⟨rfl, rfl⟩ := e
    rw [hn] at hr
    cases hr
  · rw [if_neg e]
    exact h.2 x y hr
/-- a snapshot that differs nowhere -/
theorem iv_M.cg {A B : am_S} {σ : am_M} (h : iv_M A σ) (e : ∀ a i, am_rel a i = true → A a i = B a i) : iv_M B σ := ⟨h.1, fun a i hr => (h.2 a i hr).trans (e a i hr)⟩
/-- only the reference's ints have changed -/
def fr_M (σ σ' : am_M) : Prop := σ'.1 = σ.1 ∧ σ'.2.2 = σ.2.2 ∧ ∀ a, ¬ (65 ≤ a ∧ a < 88) → σ'.2.1 a = σ.2.1 a
theorem fr_M.rf {σ : am_M} : fr_M σ σ := ⟨rfl, rfl, fun _ _ => rfl⟩
theorem fr_M.wr {σ τ : am_M} {a k : Nat} {v : Int32} (ha : 65 ≤ a ∧ a < 88) (h : fr_M σ τ) : fr_M σ (am_sI τ a k v) := by
  refine ⟨h.1, h.2.1, fun x hx => ?_⟩
  rw [← h.2.2 x hx]
  funext y
  show am_up τ.2.1 a k v x y = τ.2.1 x y
  unfold am_up
  rw [if_neg]
  rintro ⟨rfl, -⟩
  exact hx ha
theorem fr_M.tr {σ τ υ : am_M} (h : fr_M σ τ) (h2 : fr_M τ υ) : fr_M σ υ := ⟨h2.1.trans h.1, h2.2.1.trans h.2.1, fun a ha => (h2.2.2 a ha).trans (h.2.2 a ha)⟩
def fr_W (σ σ' : am_M) : Prop := σ'.1 = σ.1 ∧ σ'.2.2 = σ.2.2 ∧ ∀ a, ¬ (65 ≤ a ∧ a < 89) → σ'.2.1 a = σ.2.1 a
theorem fr_W.rf {σ : am_M} : fr_W σ σ := ⟨rfl, rfl, fun _ _ => rfl⟩
theorem fr_W.wr {σ τ : am_M} {a k : Nat} {v : Int32} (ha : 65 ≤ a ∧ a < 89) (h : fr_W σ τ) : fr_W σ (am_sI τ a k v) := by
  refine ⟨h.1, h.2.1, fun x hx => ?_⟩
  rw [← h.2.2 x hx]
  funext y
  show am_up τ.2.1 a k v x y = τ.2.1 x y
  unfold am_up
  rw [if_neg]
  rintro ⟨rfl, -⟩
  exact hx ha
theorem fr_W.tr {σ τ υ : am_M} (h : fr_W σ τ) (h2 : fr_W τ υ) : fr_W σ υ := ⟨h2.1.trans h.1, h2.2.1.trans h.2.1, fun a ha => (h2.2.2 a ha).trans (h.2.2 a ha)⟩
theorem fr_M.w {σ τ : am_M} (h : fr_M σ τ) : fr_W σ τ := ⟨h.1, h.2.1, fun a ha => h.2.2 a (fun z => ha ⟨z.1, Nat.lt_of_lt_of_le z.2 (by decide)⟩)⟩
theorem am_us {α : Type} {f : Nat → Nat → α} {a k : Nat} {v : α} : am_up f a k v a k = v := if_pos ⟨rfl, rfl⟩
theorem am_un {α : Type} {f : Nat → Nat → α} {a k x y : Nat} {v : α} (h : ¬ (x = a ∧ y = k)) : am_up f a k v x y = f x y := if_neg h
theorem am_ua {α : Type} {f : Nat → Nat → α} {a k x y : Nat} {v : α} (h : x ≠ a) : am_up f a k v x y = f x y := if_neg (fun q => h q.1)
theorem am_uk {α : Type} {f : Nat → Nat → α} {a k x y : Nat} {v : α} (h : y ≠ k) : am_up f a k v x y = f x y := if_neg (fun q => h q.2)
theorem am_uu {α : Type} {f : Nat → Nat → α} {a k : Nat} {v : α} (h : f a k = v) : am_up f a k v = f := by
  funext x y
  unfold am_up
  by_cases e : x = a ∧ y = k
  · rw [if_pos e, e.1, e.2, h]
  · rw [if_neg e]
theorem am_uw2 {α : Type} {f : Nat → Nat → α} {a k : Nat} {v w : α} : am_up (am_up f a k v) a k w = am_up f a k w := by
  funext x y
  unfold am_up
  by_cases e : x = a ∧ y = k
  · rw [if_pos e, if_pos e]
  · rw [if_neg e, if_neg e, if_neg e]
theorem am_rs {σ : am_M} {a k : Nat} {v : Int32} : (am_sI σ a k v).2.1 a k = v := am_us
theorem am_ru {σ : am_M} {a k x y : Nat} {v w : Int32} (h : ¬ (x = a ∧ y = k)) (e : σ.2.1 x y = v) : (am_sI σ a k w).2.1 x y = v := (am_un h).trans e
/-! numbers -/
def am_in (x : Int32) (n : Nat) : Bool := decide (0 ≤ x.toInt ∧ x.toInt < (n : Int))
theorem am_inN {j n : Nat} (h : j < n) (hn : n < 2 ^ 31) : am_in (nI j) n = true := by
  unfold am_in
  rw [nI_toInt (by omega)]
  simp
  exact h
theorem am_inR {x : Int32} {n : Nat} (hn : n < 2 ^ 31) : am_in x n = true ↔ am_rg x n := by
  rw [am_rgt hn]
  unfold am_in
  simp
theorem am_inF {x : Int32} {n : Nat} (hn : n < 2 ^ 31) (h : ¬ am_rg x n) : am_in x n = false := by
  cases e : am_in x n with
  | false => rfl
  | true => exact absurd ((am_inR hn).mp e) h
abbrev sN (x : Int32) : Nat := x.toNatClampNeg
theorem sN_n {j : Nat} (h : j < 2 ^ 31) : sN (nI j) = j := nI_clamp h
