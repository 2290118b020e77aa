/-! the class's cells over the abstract state -/
/-- a step as the class has it, of a code -/
def cx_st (c : Int32) : Int32 := if 100000 ≤ c then c - 100000 else if c < 11 then -1 - c else 4 - c
def x_F (A : am_S) (σ : am_M) : Prop := σ.2.1 32 12 = A 65 0 ∧ σ.2.1 32 13 = A 65 6 ∧ σ.2.1 32 14 = A 65 14 ∧ σ.2.1 32 15 = A 65 15 ∧ σ.2.1 38 2 = A 65 11 ∧ σ.2.1 50 3 = A 65 16 ∧ σ.2.1 50 4 = A 65 17 ∧ σ.2.1 50 5 = A 65 18 ∧ σ.2.1 50 6 = A 65 19 ∧ σ.2.1 34 = A 71 ∧ σ.2.1 35 = A 72 ∧ σ.2.1 36 = A 73 ∧ σ.2.1 39 = A 74 ∧ σ.2.1 53 = A 79
def x_S (A : am_S) (σ : am_M) : Prop := ∀ s, s < 4 → σ.2.1 (42 + 2 * s) 1 = A 80 s ∧ σ.2.1 (42 + 2 * s) 2 = A 81 s ∧ ∀ k, k < 40 → σ.2.1 (43 + 2 * s) k = A 82 (40 * s + k)
/-- one of people, at g -/
def x_G (A : am_S) (σ : am_M) (p g : Nat) : Prop := (89 ≤ g ∧ σ.1[g]? = some (1, 5) ∧ σ.1[g + 1]? = some (10, 4) ∧ σ.2.2 g 3 = some (g + 1)) ∧ σ.2.1 g 0 = A 66 p ∧ σ.2.1 g 1 = A 68 p ∧ σ.2.1 g 2 = A 67 p ∧ σ.2.1 g 4 = A 69 p ∧ ∀ j, j < 4 → σ.2.1 (g + 1) j = A 70 (4 * p + j)
def x_P (A : am_S) (σ : am_M) : Prop := (∀ p, p < s_np A → ∃ g, σ.2.2 33 p = some g ∧ x_G A σ p g) ∧ ∀ p q g, p < s_np A → q < s_np A → σ.2.2 33 p = some g → σ.2.2 33 q = some g → p = q
/-- a text, at x -/
def x_X (A : am_S) (σ : am_M) (t x : Nat) : Prop := ((x = 62 ∨ 89 ≤ x) ∧ σ.1[x]? = some (5, 4) ∧ σ.1[x + 1]? = some (10, s_st A t 3) ∧ σ.1[x + 2]? = some (10, 32) ∧ σ.2.2 x 0 = some (x + 1) ∧ σ.2.2 x 3 = some (x + 2)) ∧ σ.2.1 x 1 = A 76 (4 * t + 1) ∧ σ.2.1 x 2 = A 76 (4 * t + 2) ∧ ∀ k, k < s_st A t 3 → σ.2.1 (x + 1) k = cx_st (A 75 (200 * t + k))
def x_T (A : am_S) (σ : am_M) : Prop := ∀ t, t < s_nt A → ∃ x, σ.2.2 37 t = some x ∧ x_X A σ t x
def x_I (A : am_S) (σ : am_M) : Prop := A 65 16 ≠ 0 → ∀ p, p < sN (A 65 17) → σ.2.1 52 p = A 77 p ∧ ∀ j, j < 4 → σ.2.1 51 (4 * p + j) = A 78 (4 * p + j)
def iv_X (A : am_S) (σ : am_M) : Prop := ly_ok σ ∧ x_F A σ ∧ x_S A σ ∧ x_P A σ ∧ x_T A σ ∧ x_I A σ
theorem iv_X.ly {A : am_S} {σ : am_M} (h : iv_X A σ) : ly_ok σ := h.1
theorem iv_X.f12 {A : am_S} {σ : am_M} (h : iv_X A σ) : σ.2.1 32 12 = A 65 0 := h.2.1.1
theorem iv_X.f13 {A : am_S} {σ : am_M} (h : iv_X A σ) : σ.2.1 32 13 = A 65 6 := h.2.1.2.1
theorem iv_X.f14 {A : am_S} {σ : am_M} (h : iv_X A σ) : σ.2.1 32 14 = A 65 14 := h.2.1.2.2.1
theorem iv_X.f15 {A : am_S} {σ : am_M} (h : iv_X A σ) : σ.2.1 32 15 = A 65 15 := h.2.1.2.2.2.1
theorem iv_X.f38 {A : am_S} {σ : am_M} (h : iv_X A σ) : σ.2.1 38 2 = A 65 11 := h.2.1.2.2.2.2.1
theorem iv_X.f3 {A : am_S} {σ : am_M} (h : iv_X A σ) : σ.2.1 50 3 = A 65 16 := h.2.1.2.2.2.2.2.1
theorem iv_X.f4 {A : am_S} {σ : am_M} (h : iv_X A σ) : σ.2.1 50 4 = A 65 17 := h.2.1.2.2.2.2.2.2.1
theorem iv_X.f5 {A : am_S} {σ : am_M} (h : iv_X A σ) : σ.2.1 50 5 = A 65 18 := h.2.1.2.2.2.2.2.2.2.1
theorem iv_X.f6 {A : am_S} {σ : am_M} (h : iv_X A σ) : σ.2.1 50 6 = A 65 19 := h.2.1.2.2.2.2.2.2.2.2.1
theorem iv_X.r34 {A : am_S} {σ : am_M} (h : iv_X A σ) (k : Nat) : σ.2.1 34 k = A 71 k := congrFun (h.2.1.2.2.2.2.2.2.2.2.2.1) k
theorem iv_X.r35 {A : am_S} {σ : am_M} (h : iv_X A σ) (k : Nat) : σ.2.1 35 k = A 72 k := congrFun (h.2.1.2.2.2.2.2.2.2.2.2.2.1) k
theorem iv_X.r36 {A : am_S} {σ : am_M} (h : iv_X A σ) (k : Nat) : σ.2.1 36 k = A 73 k := congrFun (h.2.1.2.2.2.2.2.2.2.2.2.2.2.1) k
theorem iv_X.r39 {A : am_S} {σ : am_M} (h : iv_X A σ) (k : Nat) : σ.2.1 39 k = A 74 k := congrFun (h.2.1.2.2.2.2.2.2.2.2.2.2.2.2.1) k
theorem iv_X.r53 {A : am_S} {σ : am_M} (h : iv_X A σ) (k : Nat) : σ.2.1 53 k = A 79 k := congrFun (h.2.1.2.2.2.2.2.2.2.2.2.2.2.2.2) k
theorem iv_X.s1 {A : am_S} {σ : am_M} (h : iv_X A σ) {s : Nat} (hs : s < 4) : σ.2.1 (42 + 2 * s) 1 = A 80 s := (h.2.2.1 s hs).1
theorem iv_X.s2 {A : am_S} {σ : am_M} (h : iv_X A σ) {s : Nat} (hs : s < 4) : σ.2.1 (42 + 2 * s) 2 = A 81 s := (h.2.2.1 s hs).2.1
theorem iv_X.sn {A : am_S} {σ : am_M} (h : iv_X A σ) {s k : Nat} (hs : s < 4) (hk : k < 40) : σ.2.1 (43 + 2 * s) k = A 82 (40 * s + k) := (h.2.2.1 s hs).2.2 k hk
theorem ly_s {σ : am_M} (h : ly_ok σ) {s : Nat} (hs : s < 4) : σ.2.2 41 s = some (42 + 2 * s) ∧ σ.1[42 + 2 * s]? = some (3, 3) ∧ σ.2.2 (42 + 2 * s) 0 = some (43 + 2 * s) ∧ σ.1[43 + 2 * s]? = some (10, 40) := by
  rcases (show s = 0 ∨ s = 1 ∨ s = 2 ∨ s = 3 by omega) with rfl | rfl | rfl | rfl
  · exact ⟨ly_r h 14 rfl, ly_k h 42 rfl, ly_r h 18 rfl, ly_k h 43 rfl⟩
  · exact ⟨ly_r h 15 rfl, ly_k h 44 rfl, ly_r h 19 rfl, ly_k h 45 rfl⟩
  · exact ⟨ly_r h 16 rfl, ly_k h 46 rfl, ly_r h 20 rfl, ly_k h 47 rfl⟩
  · exact ⟨ly_r h 17 rfl, ly_k h 48 rfl, ly_r h 21 rfl, ly_k h 49 rfl⟩
theorem iv_X.g {A : am_S} {σ : am_M} (h : iv_X A σ) {p g : Nat} (hp : p < s_np A) (hg : σ.2.2 33 p = some g) : x_G A σ p g := by
  obtain ⟨g', e, h2⟩ := h.2.2.2.1.1 p hp
  have := Option.some.inj (hg.symm.trans e)
  subst this
  exact h2
theorem iv_X.ge {A : am_S} {σ : am_M} (h : iv_X A σ) {p : Nat} (hp : p < s_np A) : ∃ g, σ.2.2 33 p = some g := ⟨_, (h.2.2.2.1.1 p hp).choose_spec.1⟩
theorem iv_X.g9 {A : am_S} {σ : am_M} (h : iv_X A σ) {p g : Nat} (hp : p < s_np A) (hg : σ.2.2 33 p = some g) : 89 ≤ g := (h.g hp hg).1.1
theorem iv_X.gk {A : am_S} {σ : am_M} (h : iv_X A σ) {p g : Nat} (hp : p < s_np A) (hg : σ.2.2 33 p = some g) : σ.1[g]? = some (1, 5) := (h.g hp hg).1.2.1
theorem iv_X.gl {A : am_S} {σ : am_M} (h : iv_X A σ) {p g : Nat} (hp : p < s_np A) (hg : σ.2.2 33 p = some g) : σ.1[g + 1]? = some (10, 4) := (h.g hp hg).1.2.2.1
theorem iv_X.gd {A : am_S} {σ : am_M} (h : iv_X A σ) {p g : Nat} (hp : p < s_np A) (hg : σ.2.2 33 p = some g) : σ.2.2 g 3 = some (g + 1) := (h.g hp hg).1.2.2.2
theorem iv_X.g0 {A : am_S} {σ : am_M} (h : iv_X A σ) {p g : Nat} (hp : p < s_np A) (hg : σ.2.2 33 p = some g) : σ.2.1 g 0 = A 66 p := (h.g hp hg).2.1
theorem iv_X.g1 {A : am_S} {σ : am_M} (h : iv_X A σ) {p g : Nat} (hp : p < s_np A) (hg : σ.2.2 33 p = some g) : σ.2.1 g 1 = A 68 p := (h.g hp hg).2.2.1
theorem iv_X.g2 {A : am_S} {σ : am_M} (h : iv_X A σ) {p g : Nat} (hp : p < s_np A) (hg : σ.2.2 33 p = some g) : σ.2.1 g 2 = A 67 p := (h.g hp hg).2.2.2.1
theorem iv_X.g4 {A : am_S} {σ : am_M} (h : iv_X A σ) {p g : Nat} (hp : p < s_np A) (hg : σ.2.2 33 p = some g) : σ.2.1 g 4 = A 69 p := (h.g hp hg).2.2.2.2.1
theorem iv_X.gj {A : am_S} {σ : am_M} (h : iv_X A σ) {p g j : Nat} (hp : p < s_np A) (hg : σ.2.2 33 p = some g) (hj : j < 4) : σ.2.1 (g + 1) j = A 70 (4 * p + j) := (h.g hp hg).2.2.2.2.2 j hj
theorem iv_X.gi {A : am_S} {σ : am_M} (h : iv_X A σ) {p q g : Nat} (hp : p < s_np A) (hq : q < s_np A) (hg : σ.2.2 33 p = some g) (hg2 : σ.2.2 33 q = some g) : p = q := h.2.2.2.1.2 p q g hp hq hg hg2
theorem iv_X.t {A : am_S} {σ : am_M} (h : iv_X A σ) {t x : Nat} (ht : t < s_nt A) (hx : σ.2.2 37 t = some x) : x_X A σ t x := by
  obtain ⟨g', e, h2⟩ := h.2.2.2.2.1 t ht
  have := Option.some.inj (hx.symm.trans e)
  subst this
  exact h2
theorem iv_X.te {A : am_S} {σ : am_M} (h : iv_X A σ) {t : Nat} (ht : t < s_nt A) : ∃ x, σ.2.2 37 t = some x := ⟨_, (h.2.2.2.2.1 t ht).choose_spec.1⟩
theorem iv_X.t9 {A : am_S} {σ : am_M} (h : iv_X A σ) {t x : Nat} (ht : t < s_nt A) (hx : σ.2.2 37 t = some x) : x = 62 ∨ 89 ≤ x := (h.t ht hx).1.1
theorem iv_X.tk {A : am_S} {σ : am_M} (h : iv_X A σ) {t x : Nat} (ht : t < s_nt A) (hx : σ.2.2 37 t = some x) : σ.1[x]? = some (5, 4) := (h.t ht hx).1.2.1
theorem iv_X.tl {A : am_S} {σ : am_M} (h : iv_X A σ) {t x : Nat} (ht : t < s_nt A) (hx : σ.2.2 37 t = some x) : σ.1[x + 1]? = some (10, s_st A t 3) := (h.t ht hx).1.2.2.1
theorem iv_X.tp {A : am_S} {σ : am_M} (h : iv_X A σ) {t x : Nat} (ht : t < s_nt A) (hx : σ.2.2 37 t = some x) : σ.1[x + 2]? = some (10, 32) := (h.t ht hx).1.2.2.2.1
theorem iv_X.tr0 {A : am_S} {σ : am_M} (h : iv_X A σ) {t x : Nat} (ht : t < s_nt A) (hx : σ.2.2 37 t = some x) : σ.2.2 x 0 = some (x + 1) := (h.t ht hx).1.2.2.2.2.1
theorem iv_X.tr3 {A : am_S} {σ : am_M} (h : iv_X A σ) {t x : Nat} (ht : t < s_nt A) (hx : σ.2.2 37 t = some x) : σ.2.2 x 3 = some (x + 2) := (h.t ht hx).1.2.2.2.2.2
theorem iv_X.t1 {A : am_S} {σ : am_M} (h : iv_X A σ) {t x : Nat} (ht : t < s_nt A) (hx : σ.2.2 37 t = some x) : σ.2.1 x 1 = A 76 (4 * t + 1) := (h.t ht hx).2.1
theorem iv_X.t2 {A : am_S} {σ : am_M} (h : iv_X A σ) {t x : Nat} (ht : t < s_nt A) (hx : σ.2.2 37 t = some x) : σ.2.1 x 2 = A 76 (4 * t + 2) := (h.t ht hx).2.2.1
theorem iv_X.tc {A : am_S} {σ : am_M} (h : iv_X A σ) {t x k : Nat} (ht : t < s_nt A) (hx : σ.2.2 37 t = some x) (hk : k < s_st A t 3) : σ.2.1 (x + 1) k = cx_st (A 75 (200 * t + k)) := (h.t ht hx).2.2.2 k hk
/-- what changes nothing of people and texts -/
theorem iv_X.cg {A B : am_S} {σ τ : am_M} (h : iv_X A σ) (h1 : τ.1 = σ.1) (h2 : τ.2.2 = σ.2.2) (hF : x_F B τ) (hS : x_S B τ) (hG : ∀ g, 89 ≤ g → σ.1[g]? = some (1, 5) → σ.1[g + 1]? = some (10, 4) → τ.2.1 g = σ.2.1 g ∧ τ.2.1 (g + 1) = σ.2.1 (g + 1)) (hT : ∀ x n, (x = 62 ∨ 89 ≤ x) → σ.1[x]? = some (5, 4) → σ.1[x + 1]? = some (10, n) → τ.2.1 x = σ.2.1 x ∧ τ.2.1 (x + 1) = σ.2.1 (x + 1)) (hI : x_I B τ) (eA : B 66 = A 66 ∧ B 67 = A 67 ∧ B 68 = A 68 ∧ B 69 = A 69 ∧ B 70 = A 70 ∧ B 75 = A 75 ∧ B 76 = A 76) (en : s_np B = s_np A) (et : s_nt B = s_nt A) : iv_X B τ := by
  obtain ⟨e6, e7, e8, e9, e0, e5, e4⟩ := eA
  have es : ∀ t p, s_st B t p = s_st A t p := fun t p => by unfold s_st; rw [e4]
  refine ⟨by unfold ly_ok; rw [h1, h2]; exact h.1, hF, hS, ⟨fun p hp => ?_, fun p q g hp hq => ?_⟩, fun t ht => ?_, hI⟩
  · rw [en] at hp
    obtain ⟨g, hg, hx⟩ := h.2.2.2.1.1 p hp
    obtain ⟨u1, u2⟩ := hG g hx.1.1 hx.1.2.1 hx.1.2.2.1
    refine ⟨g, by rw [h2]; exact hg, ?_⟩
    unfold x_G
    rw [h1, h2, u1, u2, e6, e7, e8, e9, e0]
    exact hx
  · rw [en] at hp hq
    rw [h2]
    exact h.2.2.2.1.2 p q g hp hq
  · rw [et] at ht
    obtain ⟨x, hx, hk⟩ := h.2.2.2.2.1 t ht
    obtain ⟨u1, u2⟩ := hT x _ hk.1.1 hk.1.2.1 hk.1.2.2.1
    refine ⟨x, by rw [h2]; exact hx, ?_⟩
    unfold x_X
    rw [h1, h2, u1, u2, e5, e4, es]
    exact hk
theorem x_lo {σ : am_M} {a k : Nat} {v : Int32} (h : a < 62) : (∀ g, 89 ≤ g → σ.1[g]? = some (1, 5) → σ.1[g + 1]? = some (10, 4) → (am_sI σ a k v).2.1 g = σ.2.1 g ∧ (am_sI σ a k v).2.1 (g + 1) = σ.2.1 (g + 1)) ∧ ∀ x n, (x = 62 ∨ 89 ≤ x) → σ.1[x]? = some (5, 4) → σ.1[x + 1]? = some (10, n) → (am_sI σ a k v).2.1 x = σ.2.1 x ∧ (am_sI σ a k v).2.1 (x + 1) = σ.2.1 (x + 1) := ⟨fun g hg _ _ => ⟨funext fun _ => am_ua (by omega), funext fun _ => am_ua (by omega)⟩, fun x n hx _ _ => ⟨funext fun _ => am_ua (by omega), funext fun _ => am_ua (by omega)⟩⟩
theorem x_k {σ : am_M} {A : am_S} {a k b m x y p q : Nat} {v : Int32} (h1 : ¬ (x = a ∧ y = k)) (h2 : ¬ (p = b ∧ q = m)) (h : σ.2.1 x y = A p q) : (am_sI σ a k v).2.1 x y = am_up A b m v p q := (am_un h1).trans (h.trans (am_un h2).symm)
theorem x_s {σ : am_M} {A : am_S} {a k b m : Nat} {v : Int32} : (am_sI σ a k v).2.1 a k = am_up A b m v b m := am_us.trans am_us.symm
theorem x_r {σ : am_M} {A : am_S} {a k b m x p : Nat} {v : Int32} (h1 : x ≠ a) (h2 : p ≠ b) (h : σ.2.1 x = A p) : (am_sI σ a k v).2.1 x = am_up A b m v p := funext fun y => x_k (fun z => h1 z.1) (fun z => h2 z.1) (congrFun h y)
theorem x_o {σ : am_M} {A : am_S} {a k b : Nat} {v : Int32} (h : σ.2.1 a = A b) : (am_sI σ a k v).2.1 a = am_up A b k v b := by
  funext y
  by_cases e : y = k
  · subst e; exact x_s
  · exact x_k (fun z => e z.2) (fun z => e z.2) (congrFun h y)
theorem x_k0 {σ : am_M} {a k x y : Nat} {v w : Int32} (h1 : ¬ (x = a ∧ y = k)) (h : σ.2.1 x y = w) : (am_sI σ a k v).2.1 x y = w := (am_un h1).trans h
theorem x_r0 {σ : am_M} {f : Nat → Int32} {a k x : Nat} {v : Int32} (h1 : x ≠ a) (h : σ.2.1 x = f) : (am_sI σ a k v).2.1 x = f := by subst h; exact funext fun y => am_ua h1
theorem iv_X.w13 {A : am_S} {σ : am_M} {v : Int32}  (h : iv_X A σ) : iv_X (am_up A 65 6 v) (am_sI σ 32 13 v) :=
  h.cg rfl rfl ⟨x_k (by omega) (by omega) h.2.1.1, x_s, x_k (by omega) (by omega) h.2.1.2.2.1, x_k (by omega) (by omega) h.2.1.2.2.2.1, x_k (by omega) (by omega) h.2.1.2.2.2.2.1, x_k (by omega) (by omega) h.2.1.2.2.2.2.2.1, x_k (by omega) (by omega) h.2.1.2.2.2.2.2.2.1, x_k (by omega) (by omega) h.2.1.2.2.2.2.2.2.2.1, x_k (by omega) (by omega) h.2.1.2.2.2.2.2.2.2.2.1, x_r (by omega) (by omega) h.2.1.2.2.2.2.2.2.2.2.2.1, x_r (by omega) (by omega) h.2.1.2.2.2.2.2.2.2.2.2.2.1, x_r (by omega) (by omega) h.2.1.2.2.2.2.2.2.2.2.2.2.2.1, x_r (by omega) (by omega) h.2.1.2.2.2.2.2.2.2.2.2.2.2.2.1, x_r (by omega) (by omega) h.2.1.2.2.2.2.2.2.2.2.2.2.2.2.2⟩ (fun s hs => ⟨x_k (by omega) (by omega) (h.2.2.1 s hs).1, x_k (by omega) (by omega) (h.2.2.1 s hs).2.1, fun k hk => x_k (by omega) (by omega) ((h.2.2.1 s hs).2.2 k hk)⟩) (x_lo (by decide)).1 (x_lo (by decide)).2 (fun h0 p hp => by have h6 := am_un (f := A) (v := v) (show ¬ (65 = 65 ∧ 16 = 6) by omega); have h7 := am_un (f := A) (v := v) (show ¬ (65 = 65 ∧ 17 = 6) by omega); rw [h6] at h0; rw [h7] at hp; obtain ⟨u1, u2⟩ := h.2.2.2.2.2 h0 p hp; exact ⟨x_k (by omega) (by omega) u1, fun j hj => x_k (by omega) (by omega) (u2 j hj)⟩) ⟨funext fun _ => am_ua (by omega), funext fun _ => am_ua (by omega), funext fun _ => am_ua (by omega), funext fun _ => am_ua (by omega), funext fun _ => am_ua (by omega), funext fun _ => am_ua (by omega), funext fun _ => am_ua (by omega)⟩ (congrArg sN (am_un (by omega))) (congrArg sN (am_un (by omega)))
theorem iv_X.w15 {A : am_S} {σ : am_M} {v : Int32}  (h : iv_X A σ) : iv_X (am_up A 65 15 v) (am_sI σ 32 15 v) :=
  h.cg rfl rfl ⟨x_k (by omega) (by omega) h.2.1.1, x_k (by omega) (by omega) h.2.1.2.1, x_k (by omega) (by omega) h.2.1.2.2.1, x_s, x_k (by omega) (by omega) h.2.1.2.2.2.2.1, x_k (by omega) (by omega) h.2.1.2.2.2.2.2.1, x_k (by omega) (by omega) h.2.1.2.2.2.2.2.2.1, x_k (by omega) (by omega) h.2.1.2.2.2.2.2.2.2.1, x_k (by omega) (by omega) h.2.1.2.2.2.2.2.2.2.2.1, x_r (by omega) (by omega) h.2.1.2.2.2.2.2.2.2.2.2.1, x_r (by omega) (by omega) h.2.1.2.2.2.2.2.2.2.2.2.2.1, x_r (by omega) (by omega) h.2.1.2.2.2.2.2.2.2.2.2.2.2.1, x_r (by omega) (by omega) h.2.1.2.2.2.2.2.2.2.2.2.2.2.2.1, x_r (by omega) (by omega) h.2.1.2.2.2.2.2.2.2.2.2.2.2.2.2⟩ (fun s hs => ⟨x_k (by omega) (by omega) (h.2.2.1 s hs).1, x_k (by omega) (by omega) (h.2.2.1 s hs).2.1, fun k hk => x_k (by omega) (by omega) ((h.2.2.1 s hs).2.2 k hk)⟩) (x_lo (by decide)).1 (x_lo (by decide)).2 (fun h0 p hp => by have h6 := am_un (f := A) (v := v) (show ¬ (65 = 65 ∧ 16 = 15) by omega); have h7 := am_un (f := A) (v := v) (show ¬ (65 = 65 ∧ 17 = 15) by omega); rw [h6] at h0; rw [h7] at hp; obtain ⟨u1, u2⟩ := h.2.2.2.2.2 h0 p hp; exact ⟨x_k (by omega) (by omega) u1, fun j hj => x_k (by omega) (by omega) (u2 j hj)⟩) ⟨funext fun _ => am_ua (by omega), funext fun _ => am_ua (by omega), funext fun _ => am_ua (by omega), funext fun _ => am_ua (by omega), funext fun _ => am_ua (by omega), funext fun _ => am_ua (by omega), funext fun _ => am_ua (by omega)⟩ (congrArg sN (am_un (by omega))) (congrArg sN (am_un (by omega)))
theorem iv_X.w38 {A : am_S} {σ : am_M} {v : Int32}  (h : iv_X A σ) : iv_X (am_up A 65 11 v) (am_sI σ 38 2 v) :=
  h.cg rfl rfl ⟨x_k (by omega) (by omega) h.2.1.1, x_k (by omega) (by omega) h.2.1.2.1, x_k (by omega) (by omega) h.2.1.2.2.1, x_k (by omega) (by omega) h.2.1.2.2.2.1, x_s, x_k (by omega) (by omega) h.2.1.2.2.2.2.2.1, x_k (by omega) (by omega) h.2.1.2.2.2.2.2.2.1, x_k (by omega) (by omega) h.2.1.2.2.2.2.2.2.2.1, x_k (by omega) (by omega) h.2.1.2.2.2.2.2.2.2.2.1, x_r (by omega) (by omega) h.2.1.2.2.2.2.2.2.2.2.2.1, x_r (by omega) (by omega) h.2.1.2.2.2.2.2.2.2.2.2.2.1, x_r (by omega) (by omega) h.2.1.2.2.2.2.2.2.2.2.2.2.2.1, x_r (by omega) (by omega) h.2.1.2.2.2.2.2.2.2.2.2.2.2.2.1, x_r (by omega) (by omega) h.2.1.2.2.2.2.2.2.2.2.2.2.2.2.2⟩ (fun s hs => ⟨x_k (by omega) (by omega) (h.2.2.1 s hs).1, x_k (by omega) (by omega) (h.2.2.1 s hs).2.1, fun k hk => x_k (by omega) (by omega) ((h.2.2.1 s hs).2.2 k hk)⟩) (x_lo (by decide)).1 (x_lo (by decide)).2 (fun h0 p hp => by have h6 := am_un (f := A) (v := v) (show ¬ (65 = 65 ∧ 16 = 11) by omega); have h7 := am_un (f := A) (v := v) (show ¬ (65 = 65 ∧ 17 = 11) by omega); rw [h6] at h0; rw [h7] at hp; obtain ⟨u1, u2⟩ := h.2.2.2.2.2 h0 p hp; exact ⟨x_k (by omega) (by omega) u1, fun j hj => x_k (by omega) (by omega) (u2 j hj)⟩) ⟨funext fun _ => am_ua (by omega), funext fun _ => am_ua (by omega), funext fun _ => am_ua (by omega), funext fun _ => am_ua (by omega), funext fun _ => am_ua (by omega), funext fun _ => am_ua (by omega), funext fun _ => am_ua (by omega)⟩ (congrArg sN (am_un (by omega))) (congrArg sN (am_un (by omega)))
theorem iv_X.w34 {A : am_S} {σ : am_M} {v : Int32} {k : Nat} (h : iv_X A σ) : iv_X (am_up A 71 k v) (am_sI σ 34 k v) :=
  h.cg rfl rfl ⟨x_k (by omega) (by omega) h.2.1.1, x_k (by omega) (by omega) h.2.1.2.1, x_k (by omega) (by omega) h.2.1.2.2.1, x_k (by omega) (by omega) h.2.1.2.2.2.1, x_k (by omega) (by omega) h.2.1.2.2.2.2.1, x_k (by omega) (by omega) h.2.1.2.2.2.2.2.1, x_k (by omega) (by omega) h.2.1.2.2.2.2.2.2.1, x_k (by omega) (by omega) h.2.1.2.2.2.2.2.2.2.1, x_k (by omega) (by omega) h.2.1.2.2.2.2.2.2.2.2.1, x_o h.2.1.2.2.2.2.2.2.2.2.2.1, x_r (by omega) (by omega) h.2.1.2.2.2.2.2.2.2.2.2.2.1, x_r (by omega) (by omega) h.2.1.2.2.2.2.2.2.2.2.2.2.2.1, x_r (by omega) (by omega) h.2.1.2.2.2.2.2.2.2.2.2.2.2.2.1, x_r (by omega) (by omega) h.2.1.2.2.2.2.2.2.2.2.2.2.2.2.2⟩ (fun s hs => ⟨x_k (by omega) (by omega) (h.2.2.1 s hs).1, x_k (by omega) (by omega) (h.2.2.1 s hs).2.1, fun k hk => x_k (by omega) (by omega) ((h.2.2.1 s hs).2.2 k hk)⟩) (x_lo (by decide)).1 (x_lo (by decide)).2 (fun h0 p hp => by have h6 := am_un (f := A) (v := v) (show ¬ (65 = 71 ∧ 16 = k) by omega); have h7 := am_un (f := A) (v := v) (show ¬ (65 = 71 ∧ 17 = k) by omega); rw [h6] at h0; rw [h7] at hp; obtain ⟨u1, u2⟩ := h.2.2.2.2.2 h0 p hp; exact ⟨x_k (by omega) (by omega) u1, fun j hj => x_k (by omega) (by omega) (u2 j hj)⟩) ⟨funext fun _ => am_ua (by omega), funext fun _ => am_ua (by omega), funext fun _ => am_ua (by omega), funext fun _ => am_ua (by omega), funext fun _ => am_ua (by omega), funext fun _ => am_ua (by omega), funext fun _ => am_ua (by omega)⟩ (congrArg sN (am_un (by omega))) (congrArg sN (am_un (by omega)))
theorem iv_X.w35 {A : am_S} {σ : am_M} {v : Int32} {k : Nat} (h : iv_X A σ) : iv_X (am_up A 72 k v) (am_sI σ 35 k v) :=
  h.cg rfl rfl ⟨x_k (by omega) (by omega) h.2.1.1, x_k (by omega) (by omega) h.2.1.2.1, x_k (by omega) (by omega) h.2.1.2.2.1, x_k (by omega) (by omega) h.2.1.2.2.2.1, x_k (by omega) (by omega) h.2.1.2.2.2.2.1, x_k (by omega) (by omega) h.2.1.2.2.2.2.2.1, x_k (by omega) (by omega) h.2.1.2.2.2.2.2.2.1, x_k (by omega) (by omega) h.2.1.2.2.2.2.2.2.2.1, x_k (by omega) (by omega) h.2.1.2.2.2.2.2.2.2.2.1, x_r (by omega) (by omega) h.2.1.2.2.2.2.2.2.2.2.2.1, x_o h.2.1.2.2.2.2.2.2.2.2.2.2.1, x_r (by omega) (by omega) h.2.1.2.2.2.2.2.2.2.2.2.2.2.1, x_r (by omega) (by omega) h.2.1.2.2.2.2.2.2.2.2.2.2.2.2.1, x_r (by omega) (by omega) h.2.1.2.2.2.2.2.2.2.2.2.2.2.2.2⟩ (fun s hs => ⟨x_k (by omega) (by omega) (h.2.2.1 s hs).1, x_k (by omega) (by omega) (h.2.2.1 s hs).2.1, fun k hk => x_k (by omega) (by omega) ((h.2.2.1 s hs).2.2 k hk)⟩) (x_lo (by decide)).1 (x_lo (by decide)).2 (fun h0 p hp => by have h6 := am_un (f := A) (v := v) (show ¬ (65 = 72 ∧ 16 = k) by omega); have h7 := am_un (f := A) (v := v) (show ¬ (65 = 72 ∧ 17 = k) by omega); rw [h6] at h0; rw [h7] at hp; obtain ⟨u1, u2⟩ := h.2.2.2.2.2 h0 p hp; exact ⟨x_k (by omega) (by omega) u1, fun j hj => x_k (by omega) (by omega) (u2 j hj)⟩) ⟨funext fun _ => am_ua (by omega), funext fun _ => am_ua (by omega), funext fun _ => am_ua (by omega), funext fun _ => am_ua (by omega), funext fun _ => am_ua (by omega), funext fun _ => am_ua (by omega), funext fun _ => am_ua (by omega)⟩ (congrArg sN (am_un (by omega))) (congrArg sN (am_un (by omega)))
theorem iv_X.w36 {A : am_S} {σ : am_M} {v : Int32} {k : Nat} (h : iv_X A σ) : iv_X (am_up A 73 k v) (am_sI σ 36 k v) :=
  h.cg rfl rfl ⟨x_k (by omega) (by omega) h.2.1.1, x_k (by omega) (by omega) h.2.1.2.1, x_k (by omega) (by omega) h.2.1.2.2.1, x_k (by omega) (by omega) h.2.1.2.2.2.1, x_k (by omega) (by omega) h.2.1.2.2.2.2.1, x_k (by omega) (by omega) h.2.1.2.2.2.2.2.1, x_k (by omega) (by omega) h.2.1.2.2.2.2.2.2.1, x_k (by omega) (by omega) h.2.1.2.2.2.2.2.2.2.1, x_k (by omega) (by omega) h.2.1.2.2.2.2.2.2.2.2.1, x_r (by omega) (by omega) h.2.1.2.2.2.2.2.2.2.2.2.1, x_r (by omega) (by omega) h.2.1.2.2.2.2.2.2.2.2.2.2.1, x_o h.2.1.2.2.2.2.2.2.2.2.2.2.2.1, x_r (by omega) (by omega) h.2.1.2.2.2.2.2.2.2.2.2.2.2.2.1, x_r (by omega) (by omega) h.2.1.2.2.2.2.2.2.2.2.2.2.2.2.2⟩ (fun s hs => ⟨x_k (by omega) (by omega) (h.2.2.1 s hs).1, x_k (by omega) (by omega) (h.2.2.1 s hs).2.1, fun k hk => x_k (by omega) (by omega) ((h.2.2.1 s hs).2.2 k hk)⟩) (x_lo (by decide)).1 (x_lo (by decide)).2 (fun h0 p hp => by have h6 := am_un (f := A) (v := v) (show ¬ (65 = 73 ∧ 16 = k) by omega); have h7 := am_un (f := A) (v := v) (show ¬ (65 = 73 ∧ 17 = k) by omega); rw [h6] at h0; rw [h7] at hp; obtain ⟨u1, u2⟩ := h.2.2.2.2.2 h0 p hp; exact ⟨x_k (by omega) (by omega) u1, fun j hj => x_k (by omega) (by omega) (u2 j hj)⟩) ⟨funext fun _ => am_ua (by omega), funext fun _ => am_ua (by omega), funext fun _ => am_ua (by omega), funext fun _ => am_ua (by omega), funext fun _ => am_ua (by omega), funext fun _ => am_ua (by omega), funext fun _ => am_ua (by omega)⟩ (congrArg sN (am_un (by omega))) (congrArg sN (am_un (by omega)))
theorem iv_X.w39 {A : am_S} {σ : am_M} {v : Int32} {k : Nat} (h : iv_X A σ) : iv_X (am_up A 74 k v) (am_sI σ 39 k v) :=
  h.cg rfl rfl ⟨x_k (by omega) (by omega) h.2.1.1, x_k (by omega) (by omega) h.2.1.2.1, x_k (by omega) (by omega) h.2.1.2.2.1, x_k (by omega) (by omega) h.2.1.2.2.2.1, x_k (by omega) (by omega) h.2.1.2.2.2.2.1, x_k (by omega) (by omega) h.2.1.2.2.2.2.2.1, x_k (by omega) (by omega) h.2.1.2.2.2.2.2.2.1, x_k (by omega) (by omega) h.2.1.2.2.2.2.2.2.2.1, x_k (by omega) (by omega) h.2.1.2.2.2.2.2.2.2.2.1, x_r (by omega) (by omega) h.2.1.2.2.2.2.2.2.2.2.2.1, x_r (by omega) (by omega) h.2.1.2.2.2.2.2.2.2.2.2.2.1, x_r (by omega) (by omega) h.2.1.2.2.2.2.2.2.2.2.2.2.2.1, x_o h.2.1.2.2.2.2.2.2.2.2.2.2.2.2.1, x_r (by omega) (by omega) h.2.1.2.2.2.2.2.2.2.2.2.2.2.2.2⟩ (fun s hs => ⟨x_k (by omega) (by omega) (h.2.2.1 s hs).1, x_k (by omega) (by omega) (h.2.2.1 s hs).2.1, fun k hk => x_k (by omega) (by omega) ((h.2.2.1 s hs).2.2 k hk)⟩) (x_lo (by decide)).1 (x_lo (by decide)).2 (fun h0 p hp => by have h6 := am_un (f := A) (v := v) (show ¬ (65 = 74 ∧ 16 = k) by omega); have h7 := am_un (f := A) (v := v) (show ¬ (65 = 74 ∧ 17 = k) by omega); rw [h6] at h0; rw [h7] at hp; obtain ⟨u1, u2⟩ := h.2.2.2.2.2 h0 p hp; exact ⟨x_k (by omega) (by omega) u1, fun j hj => x_k (by omega) (by omega) (u2 j hj)⟩) ⟨funext fun _ => am_ua (by omega), funext fun _ => am_ua (by omega), funext fun _ => am_ua (by omega), funext fun _ => am_ua (by omega), funext fun _ => am_ua (by omega), funext fun _ => am_ua (by omega), funext fun _ => am_ua (by omega)⟩ (congrArg sN (am_un (by omega))) (congrArg sN (am_un (by omega)))
theorem iv_X.w53 {A : am_S} {σ : am_M} {v : Int32} {k : Nat} (h : iv_X A σ) : iv_X (am_up A 79 k v) (am_sI σ 53 k v) :=
  h.cg rfl rfl ⟨x_k (by omega) (by omega) h.2.1.1, x_k (by omega) (by omega) h.2.1.2.1, x_k (by omega) (by omega) h.2.1.2.2.1, x_k (by omega) (by omega) h.2.1.2.2.2.1, x_k (by omega) (by omega) h.2.1.2.2.2.2.1, x_k (by omega) (by omega) h.2.1.2.2.2.2.2.1, x_k (by omega) (by omega) h.2.1.2.2.2.2.2.2.1, x_k (by omega) (by omega) h.2.1.2.2.2.2.2.2.2.1, x_k (by omega) (by omega) h.2.1.2.2.2.2.2.2.2.2.1, x_r (by omega) (by omega) h.2.1.2.2.2.2.2.2.2.2.2.1, x_r (by omega) (by omega) h.2.1.2.2.2.2.2.2.2.2.2.2.1, x_r (by omega) (by omega) h.2.1.2.2.2.2.2.2.2.2.2.2.2.1, x_r (by omega) (by omega) h.2.1.2.2.2.2.2.2.2.2.2.2.2.2.1, x_o h.2.1.2.2.2.2.2.2.2.2.2.2.2.2.2⟩ (fun s hs => ⟨x_k (by omega) (by omega) (h.2.2.1 s hs).1, x_k (by omega) (by omega) (h.2.2.1 s hs).2.1, fun k hk => x_k (by omega) (by omega) ((h.2.2.1 s hs).2.2 k hk)⟩) (x_lo (by decide)).1 (x_lo (by decide)).2 (fun h0 p hp => by have h6 := am_un (f := A) (v := v) (show ¬ (65 = 79 ∧ 16 = k) by omega); have h7 := am_un (f := A) (v := v) (show ¬ (65 = 79 ∧ 17 = k) by omega); rw [h6] at h0; rw [h7] at hp; obtain ⟨u1, u2⟩ := h.2.2.2.2.2 h0 p hp; exact ⟨x_k (by omega) (by omega) u1, fun j hj => x_k (by omega) (by omega) (u2 j hj)⟩) ⟨funext fun _ => am_ua (by omega), funext fun _ => am_ua (by omega), funext fun _ => am_ua (by omega), funext fun _ => am_ua (by omega), funext fun _ => am_ua (by omega), funext fun _ => am_ua (by omega), funext fun _ => am_ua (by omega)⟩ (congrArg sN (am_un (by omega))) (congrArg sN (am_un (by omega)))
theorem iv_X.ws1 {A : am_S} {σ : am_M} {v : Int32} {s : Nat} (hs : s < 4) (h : iv_X A σ) : iv_X (am_up A 80 s v) (am_sI σ (42 + 2 * s) 1 v) := by
  refine h.cg rfl rfl ⟨x_k (by omega) (by omega) h.2.1.1, x_k (by omega) (by omega) h.2.1.2.1, x_k (by omega) (by omega) h.2.1.2.2.1, x_k (by omega) (by omega) h.2.1.2.2.2.1, x_k (by omega) (by omega) h.2.1.2.2.2.2.1, x_k (by omega) (by omega) h.2.1.2.2.2.2.2.1, x_k (by omega) (by omega) h.2.1.2.2.2.2.2.2.1, x_k (by omega) (by omega) h.2.1.2.2.2.2.2.2.2.1, x_k (by omega) (by omega) h.2.1.2.2.2.2.2.2.2.2.1, x_r (by omega) (by omega) h.2.1.2.2.2.2.2.2.2.2.2.1, x_r (by omega) (by omega) h.2.1.2.2.2.2.2.2.2.2.2.2.1, x_r (by omega) (by omega) h.2.1.2.2.2.2.2.2.2.2.2.2.2.1, x_r (by omega) (by omega) h.2.1.2.2.2.2.2.2.2.2.2.2.2.2.1, x_r (by omega) (by omega) h.2.1.2.2.2.2.2.2.2.2.2.2.2.2.2⟩ ?_ (x_lo (by omega)).1 (x_lo (by omega)).2 (fun h0 p hp => by have h6 := am_un (f := A) (v := v) (show ¬ (65 = 80 ∧ 16 = s) by omega); have h7 := am_un (f := A) (v := v) (show ¬ (65 = 80 ∧ 17 = s) by omega); rw [h6] at h0; rw [h7] at hp; obtain ⟨u1, u2⟩ := h.2.2.2.2.2 h0 p hp; exact ⟨x_k (by omega) (by omega) u1, fun j hj => x_k (by omega) (by omega) (u2 j hj)⟩) ⟨funext fun _ => am_ua (by omega), funext fun _ => am_ua (by omega), funext fun _ => am_ua (by omega), funext fun _ => am_ua (by omega), funext fun _ => am_ua (by omega), funext fun _ => am_ua (by omega), funext fun _ => am_ua (by omega)⟩ (congrArg sN (am_un (by omega))) (congrArg sN (am_un (by omega)))
  intro t ht
  obtain ⟨u1, u2, u3⟩ := h.2.2.1 t ht
  by_cases e : t = s
  · subst e; exact ⟨x_s, x_k (by omega) (by omega) u2, fun k hk => x_k (by omega) (by omega) (u3 k hk)⟩
  · exact ⟨x_k (by omega) (by omega) u1, x_k (by omega) (by omega) u2, fun k hk => x_k (by omega) (by omega) (u3 k hk)⟩
theorem iv_X.ws2 {A : am_S} {σ : am_M} {v : Int32} {s : Nat} (hs : s < 4) (h : iv_X A σ) : iv_X (am_up A 81 s v) (am_sI σ (42 + 2 * s) 2 v) := by
  refine h.cg rfl rfl ⟨x_k (by omega) (by omega) h.2.1.1, x_k (by omega) (by omega) h.2.1.2.1, x_k (by omega) (by omega) h.2.1.2.2.1, x_k (by omega) (by omega) h.2.1.2.2.2.1, x_k (by omega) (by omega) h.2.1.2.2.2.2.1, x_k (by omega) (by omega) h.2.1.2.2.2.2.2.1, x_k (by omega) (by omega) h.2.1.2.2.2.2.2.2.1, x_k (by omega) (by omega) h.2.1.2.2.2.2.2.2.2.1, x_k (by omega) (by omega) h.2.1.2.2.2.2.2.2.2.2.1, x_r (by omega) (by omega) h.2.1.2.2.2.2.2.2.2.2.2.1, x_r (by omega) (by omega) h.2.1.2.2.2.2.2.2.2.2.2.2.1, x_r (by omega) (by omega) h.2.1.2.2.2.2.2.2.2.2.2.2.2.1, x_r (by omega) (by omega) h.2.1.2.2.2.2.2.2.2.2.2.2.2.2.1, x_r (by omega) (by omega) h.2.1.2.2.2.2.2.2.2.2.2.2.2.2.2⟩ ?_ (x_lo (by omega)).1 (x_lo (by omega)).2 (fun h0 p hp => by have h6 := am_un (f := A) (v := v) (show ¬ (65 = 81 ∧ 16 = s) by omega); have h7 := am_un (f := A) (v := v) (show ¬ (65 = 81 ∧ 17 = s) by omega); rw [h6] at h0; rw [h7] at hp; obtain ⟨u1, u2⟩ := h.2.2.2.2.2 h0 p hp; exact ⟨x_k (by omega) (by omega) u1, fun j hj => x_k (by omega) (by omega) (u2 j hj)⟩) ⟨funext fun _ => am_ua (by omega), funext fun _ => am_ua (by omega), funext fun _ => am_ua (by omega), funext fun _ => am_ua (by omega), funext fun _ => am_ua (by omega), funext fun _ => am_ua (by omega), funext fun _ => am_ua (by omega)⟩ (congrArg sN (am_un (by omega))) (congrArg sN (am_un (by omega)))
  intro t ht
  obtain ⟨u1, u2, u3⟩ := h.2.2.1 t ht
  by_cases e : t = s
  · subst e; exact ⟨x_k (by omega) (by omega) u1, x_s, fun k hk => x_k (by omega) (by omega) (u3 k hk)⟩
  · exact ⟨x_k (by omega) (by omega) u1, x_k (by omega) (by omega) u2, fun k hk => x_k (by omega) (by omega) (u3 k hk)⟩
theorem iv_X.wsn {A : am_S} {σ : am_M} {v : Int32} {s : Nat} {j : Nat} (hs : s < 4) (hj : j < 40) (h : iv_X A σ) : iv_X (am_up A 82 (40 * s + j) v) (am_sI σ (43 + 2 * s) j v) := by
  refine h.cg rfl rfl ⟨x_k (by omega) (by omega) h.2.1.1, x_k (by omega) (by omega) h.2.1.2.1, x_k (by omega) (by omega) h.2.1.2.2.1, x_k (by omega) (by omega) h.2.1.2.2.2.1, x_k (by omega) (by omega) h.2.1.2.2.2.2.1, x_k (by omega) (by omega) h.2.1.2.2.2.2.2.1, x_k (by omega) (by omega) h.2.1.2.2.2.2.2.2.1, x_k (by omega) (by omega) h.2.1.2.2.2.2.2.2.2.1, x_k (by omega) (by omega) h.2.1.2.2.2.2.2.2.2.2.1, x_r (by omega) (by omega) h.2.1.2.2.2.2.2.2.2.2.2.1, x_r (by omega) (by omega) h.2.1.2.2.2.2.2.2.2.2.2.2.1, x_r (by omega) (by omega) h.2.1.2.2.2.2.2.2.2.2.2.2.2.1, x_r (by omega) (by omega) h.2.1.2.2.2.2.2.2.2.2.2.2.2.2.1, x_r (by omega) (by omega) h.2.1.2.2.2.2.2.2.2.2.2.2.2.2.2⟩ ?_ (x_lo (by omega)).1 (x_lo (by omega)).2 (fun h0 p hp => by have h6 := am_un (f := A) (v := v) (show ¬ (65 = 82 ∧ 16 = (40 * s + j)) by omega); have h7 := am_un (f := A) (v := v) (show ¬ (65 = 82 ∧ 17 = (40 * s + j)) by omega); rw [h6] at h0; rw [h7] at hp; obtain ⟨u1, u2⟩ := h.2.2.2.2.2 h0 p hp; exact ⟨x_k (by omega) (by omega) u1, fun j hj => x_k (by omega) (by omega) (u2 j hj)⟩) ⟨funext fun _ => am_ua (by omega), funext fun _ => am_ua (by omega), funext fun _ => am_ua (by omega), funext fun _ => am_ua (by omega), funext fun _ => am_ua (by omega), funext fun _ => am_ua (by omega), funext fun _ => am_ua (by omega)⟩ (congrArg sN (am_un (by omega))) (congrArg sN (am_un (by omega)))
  intro t ht
  obtain ⟨u1, u2, u3⟩ := h.2.2.1 t ht
  by_cases e : t = s
  · subst e; exact ⟨x_k (by omega) (by omega) u1, x_k (by omega) (by omega) u2, fun k hk => by by_cases e2 : k = j; (subst e2; exact x_s); exact x_k (by omega) (by omega) (u3 k hk)⟩
  · exact ⟨x_k (by omega) (by omega) u1, x_k (by omega) (by omega) u2, fun k hk => x_k (by omega) (by omega) (u3 k hk)⟩
/-- scratch -/
theorem iv_X.sc {A : am_S} {σ : am_M} {a k : Nat} {v : Int32} (ha : (a = 38 ∧ 3 ≤ k) ∨ a = 40 ∨ (54 ≤ a ∧ a < 62)) (h : iv_X A σ) : iv_X A (am_sI σ a k v) :=
  h.cg rfl rfl ⟨x_k0 (by omega) h.2.1.1, x_k0 (by omega) h.2.1.2.1, x_k0 (by omega) h.2.1.2.2.1, x_k0 (by omega) h.2.1.2.2.2.1, x_k0 (by omega) h.2.1.2.2.2.2.1, x_k0 (by omega) h.2.1.2.2.2.2.2.1, x_k0 (by omega) h.2.1.2.2.2.2.2.2.1, x_k0 (by omega) h.2.1.2.2.2.2.2.2.2.1, x_k0 (by omega) h.2.1.2.2.2.2.2.2.2.2.1, x_r0 (by omega) h.2.1.2.2.2.2.2.2.2.2.2.1, x_r0 (by omega) h.2.1.2.2.2.2.2.2.2.2.2.2.1, x_r0 (by omega) h.2.1.2.2.2.2.2.2.2.2.2.2.2.1, x_r0 (by omega) h.2.1.2.2.2.2.2.2.2.2.2.2.2.2.1, x_r0 (by omega) h.2.1.2.2.2.2.2.2.2.2.2.2.2.2.2⟩ (fun s hs => ⟨x_k0 (by omega) (h.2.2.1 s hs).1, x_k0 (by omega) (h.2.2.1 s hs).2.1, fun k hk => x_k0 (by omega) ((h.2.2.1 s hs).2.2 k hk)⟩) (x_lo (by omega)).1 (x_lo (by omega)).2 (fun h0 p hp => by obtain ⟨u1, u2⟩ := h.2.2.2.2.2 h0 p hp; exact ⟨x_k0 (by omega) u1, fun j hj => x_k0 (by omega) (u2 j hj)⟩) ⟨rfl, rfl, rfl, rfl, rfl, rfl, rfl⟩ rfl rfl
theorem iv_X.scp {A : am_S} {σ : am_M} {x n k : Nat} {v : Int32} (h9 : x = 62 ∨ 89 ≤ x) (h0 : σ.1[x]? = some (5, 4)) (h1 : σ.1[x + 1]? = some (10, n)) (h2 : σ.1[x + 2]? = some (10, 32)) (h : iv_X A σ) : iv_X A (am_sI σ (x + 2) k v) := by
  refine h.cg rfl rfl ⟨x_k0 (by omega) h.2.1.1, x_k0 (by omega) h.2.1.2.1, x_k0 (by omega) h.2.1.2.2.1, x_k0 (by omega) h.2.1.2.2.2.1, x_k0 (by omega) h.2.1.2.2.2.2.1, x_k0 (by omega) h.2.1.2.2.2.2.2.1, x_k0 (by omega) h.2.1.2.2.2.2.2.2.1, x_k0 (by omega) h.2.1.2.2.2.2.2.2.2.1, x_k0 (by omega) h.2.1.2.2.2.2.2.2.2.2.1, x_r0 (by omega) h.2.1.2.2.2.2.2.2.2.2.2.1, x_r0 (by omega) h.2.1.2.2.2.2.2.2.2.2.2.2.1, x_r0 (by omega) h.2.1.2.2.2.2.2.2.2.2.2.2.2.1, x_r0 (by omega) h.2.1.2.2.2.2.2.2.2.2.2.2.2.2.1, x_r0 (by omega) h.2.1.2.2.2.2.2.2.2.2.2.2.2.2.2⟩ (fun s hs => ⟨x_k0 (by omega) (h.2.2.1 s hs).1, x_k0 (by omega) (h.2.2.1 s hs).2.1, fun k hk => x_k0 (by omega) ((h.2.2.1 s hs).2.2 k hk)⟩) (fun g hg hk hk2 => ⟨funext fun _ => am_ua ?_, funext fun _ => am_ua ?_⟩) (fun y n2 hy hk hk2 => ⟨funext fun _ => am_ua ?_, funext fun _ => am_ua ?_⟩) (fun h0 p hp => by obtain ⟨u1, u2⟩ := h.2.2.2.2.2 h0 p hp; exact ⟨x_k0 (by omega) u1, fun j hj => x_k0 (by omega) (u2 j hj)⟩) ⟨rfl, rfl, rfl, rfl, rfl, rfl, rfl⟩ rfl rfl
  · rintro rfl; rw [h2] at hk; cases hk
  · intro e
    have e2 : g = x + 1 := by omega
    subst e2; rw [h1] at hk; cases hk
  · rintro rfl; rw [h2] at hk; cases hk
  · intro e
    have e2 : y = x + 1 := by omega
    subst e2; rw [h1] at hk; cases hk
theorem iv_X.gw {A B : am_S} {σ τ : am_M} {P g : Nat} (h : iv_X A σ) (hP : P < s_np A) (hg : σ.2.2 33 P = some g) (h1 : τ.1 = σ.1) (h2 : τ.2.2 = σ.2.2) (hc : ∀ a, a ≠ g → a ≠ g + 1 → τ.2.1 a = σ.2.1 a) (hG : x_G B τ P g) (hA : ∀ a, a ≠ 69 → a ≠ 70 → B a = A a) (h9 : ∀ p, p ≠ P → B 69 p = A 69 p) (h0 : ∀ p j, j < 4 → p ≠ P → B 70 (4 * p + j) = A 70 (4 * p + j)) : iv_X B τ := by
  have k1 := h.gk hP hg
  have k2 := h.gl hP hg
  have k9 := h.g9 hP hg
  have e5 : B 65 = A 65 := hA 65 (by decide) (by decide)
  have en : s_np B = s_np A := by unfold s_np; rw [e5]
  have et : s_nt B = s_nt A := by unfold s_nt; rw [e5]
  have es : ∀ t p, s_st B t p = s_st A t p := fun t p => by unfold s_st; rw [hA 76 (by decide) (by decide)]
  refine ⟨by unfold ly_ok; rw [h1, h2]; exact h.1, ?_, fun s hs => ?_, ⟨fun p hp => ?_, fun p q g hp hq => ?_⟩, fun t ht => ?_, fun z p hp => ?_⟩
  · have f := h.2.1
    unfold x_F at f ⊢
    rw [hc 32 (by omega) (by omega), hc 38 (by omega) (by omega), hc 50 (by omega) (by omega), hc 34 (by omega) (by omega), hc 35 (by omega) (by omega), hc 36 (by omega) (by omega), hc 39 (by omega) (by omega), hc 53 (by omega) (by omega), e5, hA 71 (by decide) (by decide), hA 72 (by decide) (by decide), hA 73 (by decide) (by decide), hA 74 (by decide) (by decide), hA 79 (by decide) (by decide)]
    exact f
  · rw [hc (42 + 2 * s) (by omega) (by omega), hc (43 + 2 * s) (by omega) (by omega), hA 80 (by decide) (by decide), hA 81 (by decide) (by decide), hA 82 (by decide) (by decide)]
    exact h.2.2.1 s hs
  · rw [en] at hp
    by_cases e : p = P
    · subst e
      exact ⟨g, by rw [h2]; exact hg, hG⟩
    · obtain ⟨g2, hg2, hx⟩ := h.2.2.2.1.1 p hp
      refine ⟨g2, by rw [h2]; exact hg2, ?_⟩
      have n1 : g2 ≠ g := by
        rintro rfl
        exact e (h.gi hp hP hg2 hg)
      have n2 : g2 ≠ g + 1 := by
        rintro rfl
        have := hx.1.2.1
        rw [k2] at this; cases this
      have n3 : g2 + 1 ≠ g := by
        intro q
        have := hx.1.2.2.1
        rw [q, k1] at this; cases this
      unfold x_G
      rw [h1, h2, hc g2 n1 n2, hc (g2 + 1) n3 (by omega), hA 66 (by decide) (by decide), hA 67 (by decide) (by decide), hA 68 (by decide) (by decide), h9 p e]
      exact ⟨hx.1, hx.2.1, hx.2.2.1, hx.2.2.2.1, hx.2.2.2.2.1, fun j hj => (hx.2.2.2.2.2 j hj).trans (h0 p j hj e).symm⟩
  · rw [en] at hp hq
    rw [h2]
    exact h.2.2.2.1.2 p q g hp hq
  · rw [et] at ht
    obtain ⟨x, hx, hk⟩ := h.2.2.2.2.1 t ht
    have n1 : x ≠ g := by
      rintro rfl
      have := hk.1.2.1
      rw [k1] at this; cases this
    have n2 : x ≠ g + 1 := by
      rintro rfl
      have := hk.1.2.1
      rw [k2] at this; cases this
    have n3 : x + 1 ≠ g := by
      intro q
      have := hk.1.2.2.1
      rw [q, k1] at this; cases this
    refine ⟨x, by rw [h2]; exact hx, ?_⟩
    unfold x_X
    rw [h1, h2, hc x n1 n2, hc (x + 1) n3 (by omega), hA 75 (by decide) (by decide), hA 76 (by decide) (by decide), es]
    exact hk
  · rw [e5] at z hp
    rw [hc 52 (by omega) (by omega), hc 51 (by omega) (by omega), hA 77 (by decide) (by decide), hA 78 (by decide) (by decide)]
    exact h.2.2.2.2.2 z p hp
theorem iv_X.w69 {A : am_S} {σ : am_M} {v : Int32} {P g : Nat} (hP : P < s_np A) (hg : σ.2.2 33 P = some g) (h : iv_X A σ) : iv_X (am_up A 69 P v) (am_sI σ g 4 v) := by
  obtain ⟨q, q0, q1, q2, q4, qj⟩ := h.g hP hg
  refine h.gw hP hg rfl rfl (fun a h1 h2 => funext fun _ => am_ua h1) ⟨q, x_k (by omega) (by omega) q0, x_k (by omega) (by omega) q1, x_k (by omega) (by omega) q2, x_s, fun j hj => x_k (by omega) (by omega) (qj j hj)⟩ (fun a h1 h2 => funext fun _ => am_ua h1) (fun p hp => am_uk hp) (fun p j hj hp => am_ua (by decide))
theorem iv_X.w70 {A : am_S} {σ : am_M} {v : Int32} {P g j : Nat} (hP : P < s_np A) (hg : σ.2.2 33 P = some g) (hj : j < 4) (h : iv_X A σ) : iv_X (am_up A 70 (4 * P + j) v) (am_sI σ (g + 1) j v) := by
  obtain ⟨q, q0, q1, q2, q4, qj⟩ := h.g hP hg
  refine h.gw hP hg rfl rfl (fun a h1 h2 => funext fun _ => am_ua h2) ⟨q, x_k (by omega) (by omega) q0, x_k (by omega) (by omega) q1, x_k (by omega) (by omega) q2, x_k (by omega) (by omega) q4, fun i hi => by by_cases e : i = j; (subst e; exact x_s); exact x_k (by omega) (by omega) (qj i hi)⟩ (fun a h1 h2 => funext fun _ => am_ua h2) (fun p hp => am_ua (by decide)) (fun p i hi hp => am_uk (by omega))
/-- the reference's calls leave the class as it is -/
theorem iv_X.W {A : am_S} {σ τ : am_M} (h : iv_X A σ) (f : fr_W σ τ) : iv_X A τ := by
  have hc : ∀ a, a < 65 ∨ 89 ≤ a → τ.2.1 a = σ.2.1 a := fun a ha => f.2.2 a (by omega)
  refine h.cg f.1 f.2.1 ?_ ?_ (fun g hg _ _ => ⟨hc g (by omega), hc (g + 1) (by omega)⟩) (fun x n hx _ _ => ⟨hc x (by omega), hc (x + 1) (by omega)⟩) ?_ ⟨rfl, rfl, rfl, rfl, rfl, rfl, rfl⟩ rfl rfl
  · have e := h.2.1
    unfold x_F at e ⊢
    rw [hc 32 (by omega), hc 38 (by omega), hc 50 (by omega), hc 34 (by omega), hc 35 (by omega), hc 36 (by omega), hc 39 (by omega), hc 53 (by omega)]
    exact e
  · intro s hs
    rw [hc (42 + 2 * s) (by omega), hc (43 + 2 * s) (by omega)]
    exact h.2.2.1 s hs
  · intro z p hp
    rw [hc 52 (by omega), hc 51 (by omega)]
    exact h.2.2.2.2.2 z p hp
/-- only the class's ints have changed -/
def fr_C (σ σ' : am_M) : Prop := σ'.1 = σ.1 ∧ σ'.2.2 = σ.2.2 ∧ ∀ a, (a = 60 ∨ 65 ≤ a) → a < 89 → σ'.2.1 a = σ.2.1 a
theorem fr_C.rf {σ : am_M} : fr_C σ σ := ⟨rfl, rfl, fun _ _ _ => rfl⟩
theorem fr_C.wr {σ τ : am_M} {a k : Nat} {v : Int32} (ha : ¬ ((a = 60 ∨ 65 ≤ a) ∧ a < 89)) (h : fr_C σ τ) : fr_C σ (am_sI τ a k v) := ⟨h.1, h.2.1, fun x h1 h2 => (funext fun _ => am_ua (by omega)).trans (h.2.2 x h1 h2)⟩
theorem fr_C.tr {σ τ υ : am_M} (h : fr_C σ τ) (h2 : fr_C τ υ) : fr_C σ υ := ⟨h2.1.trans h.1, h2.2.1.trans h.2.1, fun a h3 h4 => (h2.2.2 a h3 h4).trans (h.2.2 a h3 h4)⟩
/-- only a text's pile has changed -/
def fr_S (σ σ' : am_M) : Prop := σ'.1 = σ.1 ∧ σ'.2.2 = σ.2.2 ∧ ∀ a, a ≠ 64 → a < 89 → σ'.2.1 a = σ.2.1 a
theorem fr_S.rf {σ : am_M} : fr_S σ σ := ⟨rfl, rfl, fun _ _ _ => rfl⟩
theorem fr_S.wr {σ τ : am_M} {x k : Nat} {v : Int32} (ha : x = 62 ∨ 89 ≤ x) (h : fr_S σ τ) : fr_S σ (am_sI τ (x + 2) k v) := ⟨h.1, h.2.1, fun y h1 h2 => (funext fun _ => am_ua (by omega)).trans (h.2.2 y h1 h2)⟩
theorem fr_S.tr {σ τ υ : am_M} (h : fr_S σ τ) (h2 : fr_S τ υ) : fr_S σ υ := ⟨h2.1.trans h.1, h2.2.1.trans h.2.1, fun a h3 h4 => (h2.2.2 a h3 h4).trans (h.2.2 a h3 h4)⟩
theorem fr_S.C {σ τ : am_M} (h : fr_S σ τ) : fr_C σ τ := ⟨h.1, h.2.1, fun a h1 h2 => h.2.2 a (by omega) h2⟩
/-! what the class has reckoned -/
def cb_X (A : am_S) (σ : am_M) : Prop := σ.2.1 54 4 = A 65 6 ∧ ∀ q, q < s_nq A → σ.2.1 56 q = nI (mk_m (fun p => s_cn A p q) (s_np A)) ∧ σ.2.1 57 q = s_pt A q ∧ ∀ p, p < s_np A → σ.2.1 55 (8 * p + q) = s_wt A p q
def cr_X (A : am_S) (σ : am_M) : Prop := ∀ t, t < 3 → σ.2.1 59 t = nI (mk_m (s_rt A (s_se A t)) (s_nq A))
theorem cb_X.n {A : am_S} {σ : am_M} (h : cb_X A σ) : σ.2.1 54 4 = A 65 6 := h.1
theorem cb_X.a {A : am_S} {σ : am_M} (h : cb_X A σ) {q : Nat} (hq : q < s_nq A) : σ.2.1 56 q = nI (mk_m (fun p => s_cn A p q) (s_np A)) := (h.2 q hq).1
theorem cb_X.p {A : am_S} {σ : am_M} (h : cb_X A σ) {q : Nat} (hq : q < s_nq A) : σ.2.1 57 q = s_pt A q := (h.2 q hq).2.1
theorem cb_X.w {A : am_S} {σ : am_M} (h : cb_X A σ) {p q : Nat} (hp : p < s_np A) (hq : q < s_nq A) : σ.2.1 55 (8 * p + q) = s_wt A p q := (h.2 q hq).2.2 p hp
theorem cb_X.cg {A : am_S} {σ τ : am_M} (h : cb_X A σ) (e : ∀ a, 54 ≤ a → a < 58 → τ.2.1 a = σ.2.1 a) : cb_X A τ := by
  unfold cb_X
  rw [e 54 (by decide) (by decide), e 55 (by decide) (by decide), e 56 (by decide) (by decide), e 57 (by decide) (by decide)]
  exact h
theorem cb_X.eq {A B : am_S} {σ : am_M} (h : cb_X A σ) (e : s_eq A B) : cb_X B σ := by
  refine ⟨h.1.trans e.2.1, fun q hq => ?_⟩
  rw [← e.nq] at hq
  obtain ⟨h1, h2, h3⟩ := h.2 q hq
  refine ⟨?_, h2.trans (e.pt q), fun p hp => ?_⟩
  · rw [h1, ← e.np]
    congr 1
    exact mk_ext fun p _ => e.cn p q
  · rw [← e.np] at hp
    exact (h3 p hp).trans (e.wt p q)
/-- answers of the class: the state stays, or becomes another -/
def am_qC (A : am_S) (v : Value) (σ0 : am_M) : Option Value → am_M → Prop := fun r σ' => r = some v ∧ iv_X A σ' ∧ fr_C σ0 σ'
def am_qD (x : Int32 × am_S) (σ0 : am_M) : Option Value → am_M → Prop := fun r σ' => r = some (.int x.1) ∧ iv_X x.2 σ' ∧ fr_C σ0 σ'
theorem am_qDi {x : Int32 × am_S} {v : Int32} {B : am_S} {σ0 σ' : am_M} (e : x = (v, B)) (hI : iv_X B σ') (hf : fr_C σ0 σ') : am_qD x σ0 (some (.int v)) σ' := by subst e; exact ⟨rfl, hI, hf⟩
