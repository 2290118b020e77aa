/-! the reference: a text read -/
def tx_p (nx : Nat → lx_T) (key : Int32) (t : lx_T) : lx_F := if t.1 = key then (if ((rd nx 5).2.2 (nx t.2.2)).1 = true ∧ ((rd nx 5).2.2 (nx t.2.2)).2.2.1 = -18 then (true, ((rd nx 5).2.2 (nx t.2.2)).2.1, ((rd nx 5).2.2 (nx t.2.2)).2.2) else (false, [], ((rd nx 5).2.2 (nx t.2.2)).2.2)) else (false, [], t)
abbrev tx_C : Type := Bool × (List Int32 × List Int32 × List Int32) × Nat
def tx3 (nx : Nat → lx_T) (c1 c2 : List Int32) (p : lx_F) : tx_C := if p.1 = true then (if (nx p.2.2.2.2).1 = -22 then (true, (c1, c2, p.2.1), 0) else (false, ([], [], []), (nx p.2.2.2.2).2.1)) else (false, ([], [], []), p.2.2.2.1)
def tx2 (nx : Nat → lx_T) (c1 : List Int32) (p : lx_F) : tx_C := if p.1 = true then tx3 nx c1 p.2.1 (tx_p nx (-21) (nx p.2.2.2.2)) else (false, ([], [], []), p.2.2.2.1)
def tx1 (nx : Nat → lx_T) (p : lx_F) : tx_C := if p.1 = true then tx2 nx p.2.1 (tx_p nx (-20) (nx p.2.2.2.2)) else (false, ([], [], []), p.2.2.2.1)
/-- a whole text: whether it may stand, its codes, the place of the fault -/
def tx (nx : Nat → lx_T) : tx_C := tx1 nx (tx_p nx (-19) (nx 0))
theorem tx_pN {nx : Nat → lx_T} {key : Int32} {t : lx_T} (h : ¬ t.1 = key) : tx_p nx key t = (false, [], t) := if_neg h
theorem mr_cv.un {X : Nat → Option mr_R} {R R2 : mr_R} (h : mr_cv X R) (k : Nat) (h2 : ∀ F, X (F + k) = some R2) : R = R2 := by
  obtain ⟨n, hn⟩ := h
  have e := (hn k).symm.trans (h2 n)
  exact Option.some.inj e
theorem tx_t1 {n : Nat} {nx : Nat → lx_T} (hn : n ≤ 160) (hX : rd_Y n nx) {l l3 : List Int32} {t T3 : lx_T} {key : Int32} (hk : t.1 = key) (ht : t.2.2 ≤ n) (h : mr_cv (fun F => mr nx F true true [] 0 l (nx t.2.2)) (true, l3, T3)) : ∃ cs, l3 = l ++ cs ∧ tx_p nx key t = (true, cs, T3) := by
  obtain ⟨m1, m2⟩ := mr_top hn hX l (nx t.2.2) (hX _ ht).1
  by_cases c : ((rd nx 5).2.2 (nx t.2.2)).1 = true ∧ ((rd nx 5).2.2 (nx t.2.2)).2.2.1 = -18
  · obtain ⟨k, hk2⟩ := m1 c
    have e := h.un k hk2
    injection e with e1 e2
    injection e2 with e3 e4
    exact ⟨_, e3, by rw [show tx_p nx key t = _ from if_pos hk, if_pos c, e4]⟩
  · exfalso
    obtain ⟨k, hk2⟩ := m2 c
    obtain ⟨n0, hn0⟩ := h
    obtain ⟨l2, hl2⟩ := hk2 n0
    have e := (hn0 k).symm.trans hl2
    injection e with e
    injection e with e1 e2
    cases e1
theorem tx_t0 {n : Nat} {nx : Nat → lx_T} (hn : n ≤ 160) (hX : rd_Y n nx) {l l3 : List Int32} {t T3 : lx_T} {key : Int32} (hk : t.1 = key) (ht : t.2.2 ≤ n) (h : mr_cv (fun F => mr nx F true true [] 0 l (nx t.2.2)) (false, l3, T3)) : tx_p nx key t = (false, [], T3) := by
  obtain ⟨m1, m2⟩ := mr_top hn hX l (nx t.2.2) (hX _ ht).1
  by_cases c : ((rd nx 5).2.2 (nx t.2.2)).1 = true ∧ ((rd nx 5).2.2 (nx t.2.2)).2.2.1 = -18
  · exfalso
    obtain ⟨k, hk2⟩ := m1 c
    have e := h.un k hk2
    injection e with e1 e2
    cases e1
  · obtain ⟨k, hk2⟩ := m2 c
    obtain ⟨n0, hn0⟩ := h
    obtain ⟨l2, hl2⟩ := hk2 n0
    have e := (hn0 k).symm.trans hl2
    injection e with e
    injection e with e1 e2
    injection e2 with e3 e4
    rw [show tx_p nx key t = _ from if_pos hk, if_neg c, e4]
theorem tx_1F {nx : Nat → lx_T} {c : List Int32} {t : lx_T} (h : tx_p nx (-19) (nx 0) = (false, c, t)) : (tx nx).1 = false ∧ (tx nx).2.2 = t.2.1 := by
  unfold tx; rw [h]; exact ⟨rfl, rfl⟩
theorem tx_1T {nx : Nat → lx_T} {c : List Int32} {t : lx_T} (h : tx_p nx (-19) (nx 0) = (true, c, t)) : tx nx = tx2 nx c (tx_p nx (-20) (nx t.2.2)) := by
  unfold tx; rw [h]; rfl
theorem tx_2F {nx : Nat → lx_T} {c1 c : List Int32} {t0 t : lx_T} (h1 : tx nx = tx2 nx c1 (tx_p nx (-20) t0)) (h : tx_p nx (-20) t0 = (false, c, t)) : (tx nx).1 = false ∧ (tx nx).2.2 = t.2.1 := by
  rw [h1, h]; exact ⟨rfl, rfl⟩
theorem tx_2T {nx : Nat → lx_T} {c1 c : List Int32} {t0 t : lx_T} (h1 : tx nx = tx2 nx c1 (tx_p nx (-20) t0)) (h : tx_p nx (-20) t0 = (true, c, t)) : tx nx = tx3 nx c1 c (tx_p nx (-21) (nx t.2.2)) := by
  rw [h1, h]; rfl
theorem tx_3F {nx : Nat → lx_T} {c1 c2 c : List Int32} {t0 t : lx_T} (h1 : tx nx = tx3 nx c1 c2 (tx_p nx (-21) t0)) (h : tx_p nx (-21) t0 = (false, c, t)) : (tx nx).1 = false ∧ (tx nx).2.2 = t.2.1 := by
  rw [h1, h]; exact ⟨rfl, rfl⟩
theorem tx_4F {nx : Nat → lx_T} {c1 c2 c : List Int32} {t0 t : lx_T} (h1 : tx nx = tx3 nx c1 c2 (tx_p nx (-21) t0)) (h : tx_p nx (-21) t0 = (true, c, t)) (h4 : ¬ (nx t.2.2).1 = -22) : (tx nx).1 = false ∧ (tx nx).2.2 = (nx t.2.2).2.1 := by
  rw [h1, h]
  unfold tx3
  rw [if_pos rfl, if_neg h4]; exact ⟨rfl, rfl⟩
theorem tx_4T {nx : Nat → lx_T} {c1 c2 c : List Int32} {t0 t : lx_T} (h1 : tx nx = tx3 nx c1 c2 (tx_p nx (-21) t0)) (h : tx_p nx (-21) t0 = (true, c, t)) (h4 : (nx t.2.2).1 = -22) : (tx nx).1 = true ∧ (tx nx).2.1 = (c1, c2, c) := by
  rw [h1, h]
  unfold tx3
  rw [if_pos rfl, if_pos h4]; exact ⟨rfl, rfl⟩
theorem mt_k3 {x : Int32} (h : mt_t x = 3) : x = -19 ∨ x = -20 ∨ x = -21 := by
  by_cases e : x = -19 ∨ x = -20 ∨ x = -21
  · exact e
  · exfalso
    unfold mt_t at h
    by_cases c1 : 0 ≤ x
    · rw [if_pos c1] at h; exact absurd h (by decide)
    rw [if_neg c1] at h
    by_cases c2 : -6 ≤ x
    · rw [if_pos c2] at h; exact absurd h (by decide)
    rw [if_neg c2] at h
    by_cases d1 : x = -7
    · rw [if_pos d1] at h; exact absurd h (by decide)
    rw [if_neg d1] at h
    by_cases d2 : x = -8
    · rw [if_pos d2] at h; exact absurd h (by decide)
    rw [if_neg d2] at h
    by_cases d3 : x = -9
    · rw [if_pos d3] at h; exact absurd h (by decide)
    rw [if_neg d3] at h
    by_cases d4 : x = -10
    · rw [if_pos d4] at h; exact absurd h (by decide)
    rw [if_neg d4] at h
    by_cases d5 : x = -11
    · rw [if_pos d5] at h; exact absurd h (by decide)
    rw [if_neg d5] at h
    by_cases d6 : x = -12
    · rw [if_pos d6] at h; exact absurd h (by decide)
    rw [if_neg d6] at h
    by_cases d7 : x = -13
    · rw [if_pos d7] at h; exact absurd h (by decide)
    rw [if_neg d7] at h
    by_cases d8 : x = -14
    · rw [if_pos d8] at h; exact absurd h (by decide)
    rw [if_neg d8] at h
    by_cases d9 : x = -16
    · rw [if_pos d9] at h; exact absurd h (by decide)
    rw [if_neg d9] at h
    by_cases da : x = -17
    · rw [if_pos da] at h; exact absurd h (by decide)
    rw [if_neg da] at h
    by_cases db : x = -18
    · rw [if_pos db] at h; exact absurd h (by decide)
    rw [if_neg db, if_neg e] at h
    by_cases dc : x = -22
    · rw [if_pos dc] at h; exact absurd h (by decide)
    rw [if_neg dc] at h; exact absurd h (by decide)
theorem mt_k {x p : Int32} (h : mt_t x = 3) (h2 : mt_v x = p) : x = -19 - p ∧ mt_n x := by
  rcases mt_k3 h with rfl | rfl | rfl
  · subst h2; exact ⟨by decide, Or.inr (Or.inl rfl)⟩
  · subst h2; exact ⟨by decide, Or.inr (Or.inr (Or.inl rfl))⟩
  · subst h2; exact ⟨by decide, Or.inr (Or.inr (Or.inr rfl))⟩
theorem mt_kn {x : Int32} (h : mt_t x = 3) : mt_n x := Or.inr (mt_k3 h)
theorem mt_kF {x p : Int32} (h : mt_t x = 3) (h2 : ¬ mt_v x = p) (k : Int32) (hk : k = -19 ∨ k = -20 ∨ k = -21) (hp : mt_v k = p) : ¬ x = k := fun e => h2 (by rw [e]; exact hp)
theorem mt_kG {x : Int32} (h : ¬ mt_t x = 3) (k : Int32) (hk : mt_t k = 3) : ¬ x = k := fun e => h (by rw [e]; exact hk)
theorem mt_22 {x : Int32} (h : x = -22) : mt_t x = 0 := by subst h; decide
theorem mt_q0 {x : Int32} (h : mt_t x = 0) : x = -22 := by
  by_cases dc : x = -22
  · exact dc
  · exfalso
    unfold mt_t at h
    by_cases c1 : 0 ≤ x
    · rw [if_pos c1] at h; exact absurd h (by decide)
    rw [if_neg c1] at h
    by_cases c2 : -6 ≤ x
    · rw [if_pos c2] at h; exact absurd h (by decide)
    rw [if_neg c2] at h
    by_cases d1 : x = -7
    · rw [if_pos d1] at h; exact absurd h (by decide)
    rw [if_neg d1] at h
    by_cases d2 : x = -8
    · rw [if_pos d2] at h; exact absurd h (by decide)
    rw [if_neg d2] at h
    by_cases d3 : x = -9
    · rw [if_pos d3] at h; exact absurd h (by decide)
    rw [if_neg d3] at h
    by_cases d4 : x = -10
    · rw [if_pos d4] at h; exact absurd h (by decide)
    rw [if_neg d4] at h
    by_cases d5 : x = -11
    · rw [if_pos d5] at h; exact absurd h (by decide)
    rw [if_neg d5] at h
    by_cases d6 : x = -12
    · rw [if_pos d6] at h; exact absurd h (by decide)
    rw [if_neg d6] at h
    by_cases d7 : x = -13
    · rw [if_pos d7] at h; exact absurd h (by decide)
    rw [if_neg d7] at h
    by_cases d8 : x = -14
    · rw [if_pos d8] at h; exact absurd h (by decide)
    rw [if_neg d8] at h
    by_cases d9 : x = -16
    · rw [if_pos d9] at h; exact absurd h (by decide)
    rw [if_neg d9] at h
    by_cases da : x = -17
    · rw [if_pos da] at h; exact absurd h (by decide)
    rw [if_neg da] at h
    by_cases db : x = -18
    · rw [if_pos db] at h; exact absurd h (by decide)
    rw [if_neg db] at h
    by_cases e : x = -19 ∨ x = -20 ∨ x = -21
    · rw [if_pos e] at h; exact absurd h (by decide)
    rw [if_neg e, if_neg dc] at h; exact absurd h (by decide)
/-- where the parts of the new text begin -/
def tx_B (A : am_S) : List Nat → am_S
  | [] => A
  | x :: s => am_up (tx_B A s) 76 (4 * s_nt A + s.length) (nI x)
theorem tx_Bx {A : am_S} {a k : Nat} : ∀ {s : List Nat}, ¬ (a = 76 ∧ 4 * s_nt A ≤ k) → tx_B A s a k = A a k := by
  intro s
  induction s with
  | nil => intro _; rfl
  | cons x s ih =>
    intro h
    exact (am_un (fun z => h ⟨z.1, by omega⟩)).trans (ih h)
theorem tx_Bnt {A : am_S} {s : List Nat} : s_nt (tx_B A s) = s_nt A := congrArg sN (tx_Bx (by omega))
theorem tx_Btp {A : am_S} {s : List Nat} : s_tp (tx_B A s) = s_tp A := congrArg sN (tx_Bx (by omega))
theorem tx_B74 {A : am_S} {s : List Nat} : tx_B A s 74 = A 74 := funext fun k => tx_Bx (by omega)
theorem tx_BT {A : am_S} {s : List Nat} (h : wf_T A) : wf_T (tx_B A s) := by
  unfold wf_T s_tp s_nt
  have e2 : ∀ a, a ≠ 76 → tx_B A s a = A a := fun a ha => funext fun k => tx_Bx (fun z => ha z.1)
  rw [e2 65 (by decide), e2 74 (by decide)]
  exact h
theorem tx_BW {A : am_S} {s : List Nat} (h : wo_A A) : wo_A (tx_B A s) := fun i hi => (tx_Bx (by omega)).trans (h i hi)
theorem tx_Bup {A : am_S} {s : List Nat} {l : List Int32} {x : Nat} : cd_S (tx_B A (x :: s)) l = am_up (cd_S (tx_B A s) l) 76 (4 * s_nt A + s.length) (nI x) := by
  funext a k
  unfold cd_S
  rw [tx_Bnt, tx_Bnt]
  by_cases e : a = 76 ∧ k = 4 * s_nt A + s.length
  · obtain ⟨rfl, rfl⟩ := e
    rw [am_us, if_neg (by omega)]
    exact am_us
  · rw [am_un e]
    by_cases c : a = 75 ∧ 200 * s_nt A ≤ k ∧ k < 200 * s_nt A + l.length
    · rw [if_pos c, if_pos c]
    · rw [if_neg c, if_neg c]
      exact am_un e
/-- all but the new text's place is as it was, the tape empty -/
def tx_D (A A' : am_S) : Prop := A' 65 11 = 0 ∧ ∀ a k, ¬ (a = 65 ∧ (k = 11 ∨ k = 14)) → ¬ (a = 75 ∧ 200 * s_nt A ≤ k) → ¬ (a = 76 ∧ 4 * s_nt A ≤ k) → A' a k = A a k
def tx_K (A A' : am_S) (c : List Int32 × List Int32 × List Int32) : Prop := (∀ i, i < (c.1 ++ c.2.1 ++ c.2.2).length → A' 75 (200 * s_nt A + i) = (c.1 ++ c.2.1 ++ c.2.2).getD i 0) ∧ A' 76 (4 * s_nt A) = 0 ∧ A' 76 (4 * s_nt A + 1) = nI c.1.length ∧ A' 76 (4 * s_nt A + 2) = nI (c.1 ++ c.2.1).length ∧ A' 76 (4 * s_nt A + 3) = nI (c.1 ++ c.2.1 ++ c.2.2).length
def tx_n (A : am_S) : Nat → lx_T := lx_nx (A 74) (s_tp A)
/-- what reading a text does -/
def tx_Q (A A' : am_S) (r : Int32) : Prop := (s_nt A = 6 ∧ r = -4 ∧ A' = A) ∨ (s_nt A < 6 ∧ tx_D A A' ∧ (((tx (tx_n A)).1 = false ∧ r = -100 - nI (tx (tx_n A)).2.2 ∧ A' 65 14 = nI (s_nt A)) ∨ ((tx (tx_n A)).1 = true ∧ r = nI (s_nt A) ∧ A' 65 14 = nI (s_nt A + 1) ∧ tx_K A A' (tx (tx_n A)).2.1)))
def am_qX (A : am_S) (σ0 : am_M) : Option Value → am_M → Prop := fun r σ' => ∃ A' x, tx_Q A A' x ∧ r = some (.int x) ∧ iv_M A' σ' ∧ fr_M σ0 σ'
theorem tx_D1 {A : am_S} {s : List Nat} {l : List Int32} : tx_D A (am_up (cd_S (tx_B A s) l) 65 11 0) := by
  refine ⟨am_us, fun a k h1 h2 h3 => ?_⟩
  rw [am_un (by omega)]
  unfold cd_S
  rw [tx_Bnt, if_neg (by omega), tx_Bx h3]
theorem tx_D2 {A : am_S} {s : List Nat} {l : List Int32} {v : Int32} : tx_D A (am_up (am_up (cd_S (tx_B A s) l) 65 11 0) 65 14 v) := ⟨(am_un (by omega)).trans tx_D1.1, fun a k h1 h2 h3 => (am_un (by omega)).trans (tx_D1.2 a k h1 h2 h3)⟩
theorem tx_KL {A : am_S} {l : List Int32} {s : List Nat} {v : Int32} {a k : Nat} (h : a ≠ 65) : am_up (am_up (cd_S (tx_B A s) l) 65 11 0) 65 14 v a k = cd_S (tx_B A s) l a k := (am_un (by omega)).trans (am_un (by omega))
theorem tx_K1 {A : am_S} {c1 c2 c3 : List Int32} {v : Int32} : tx_K A (am_up (am_up (cd_S (tx_B A [(c1 ++ c2 ++ c3).length, (c1 ++ c2).length, c1.length, 0]) (c1 ++ c2 ++ c3)) 65 11 0) 65 14 v) (c1, c2, c3) := by
  refine ⟨fun i hi => ?_, ?_, ?_, ?_, ?_⟩
  · rw [tx_KL (by decide), ← tx_Bnt (s := [(c1 ++ c2 ++ c3).length, (c1 ++ c2).length, c1.length, 0]), cd_at hi]
  · rw [tx_KL (by decide), cd_x (by decide)]
    exact (am_uk (by show 4 * s_nt A ≠ 4 * s_nt A + 3; omega)).trans ((am_uk (by show 4 * s_nt A ≠ 4 * s_nt A + 2; omega)).trans ((am_uk (by show 4 * s_nt A ≠ 4 * s_nt A + 1; omega)).trans am_us))
  · rw [tx_KL (by decide), cd_x (by decide)]
    exact (am_uk (by show 4 * s_nt A + 1 ≠ 4 * s_nt A + 3; omega)).trans ((am_uk (by show 4 * s_nt A + 1 ≠ 4 * s_nt A + 2; omega)).trans am_us)
  · rw [tx_KL (by decide), cd_x (by decide)]
    exact (am_uk (by show 4 * s_nt A + 2 ≠ 4 * s_nt A + 3; omega)).trans am_us
  · rw [tx_KL (by decide), cd_x (by decide)]
    exact am_us
