/-! the state while a text is read: its codes so far, and the pile that is held -/
def cd_S (A : am_S) (l : List Int32) : am_S := fun a k => if a = 75 ∧ 200 * s_nt A ≤ k ∧ k < 200 * s_nt A + l.length then l.getD (k - 200 * s_nt A) 0 else A a k
theorem cd_x {A : am_S} {l : List Int32} {a k : Nat} (h : a ≠ 75) : cd_S A l a k = A a k := if_neg (fun z => h z.1)
theorem cd_lo {A : am_S} {l : List Int32} {a k : Nat} (h : k < 200 * s_nt A) : cd_S A l a k = A a k := if_neg (by omega)
theorem cd_at {A : am_S} {l : List Int32} {i : Nat} (h : i < l.length) : cd_S A l 75 (200 * s_nt A + i) = l.getD i 0 := by
  unfold cd_S
  rw [if_pos ⟨rfl, by omega, by omega⟩, Nat.add_sub_cancel_left]
theorem cd_0 {A : am_S} : cd_S A [] = A := by
  funext a k
  exact if_neg (by rintro ⟨-, h1, h2⟩; have : k < 200 * s_nt A + 0 := h2; omega)
theorem cd_nt {A : am_S} {l : List Int32} : s_nt (cd_S A l) = s_nt A := congrArg sN (cd_x (by decide))
theorem cd_tp {A : am_S} {l : List Int32} : s_tp (cd_S A l) = s_tp A := congrArg sN (cd_x (by decide))
theorem cd_74 {A : am_S} {l : List Int32} : cd_S A l 74 = A 74 := funext fun k => cd_x (by decide)
theorem cd_add {A : am_S} {l : List Int32} {c : Int32} : am_up (cd_S A l) 75 (200 * s_nt A + l.length) c = cd_S A (l ++ [c]) := by
  funext a k
  by_cases e : a = 75 ∧ k = 200 * s_nt A + l.length
  · obtain ⟨rfl, rfl⟩ := e
    rw [am_us, cd_at (by rw [List.length_append, List.length_singleton]; omega)]
    rw [List.getD_eq_getElem?_getD, List.getElem?_append_right (Nat.le_refl _), Nat.sub_self]
    rfl
  · rw [am_un e]
    unfold cd_S
    by_cases h : a = 75 ∧ 200 * s_nt A ≤ k ∧ k < 200 * s_nt A + l.length
    · rw [if_pos h, if_pos ⟨h.1, h.2.1, by rw [List.length_append]; omega⟩, List.getD_eq_getElem?_getD, List.getD_eq_getElem?_getD, List.getElem?_append_left (by omega)]
    · rw [if_neg h, if_neg (by rw [List.length_append, List.length_singleton]; omega)]
theorem wf_cd {A : am_S} {l : List Int32} (h : wf_A A) : wf_A (cd_S A l) := by
  have e2 : ∀ a, a ≠ 75 → cd_S A l a = A a := fun a ha => funext fun k => cd_x ha
  have ht : ∀ t, t < s_nt A → wf_t A t → wf_t (cd_S A l) t := by
    intro t htt hw
    obtain ⟨g1, g2⟩ := hw
    have es : ∀ part, s_st (cd_S A l) t part = s_st A t part := fun part => congrArg sN (cd_x (by decide))
    refine ⟨(cd_x (by decide)).trans g1, fun part hp => ?_⟩
    obtain ⟨f1, f2, f3, f4⟩ := g2 part hp
    rw [es, es]
    refine ⟨(cd_x (by decide)).trans f1, f2, f3, ?_⟩
    rw [← f4]
    congr 1
    unfold s_cs
    rw [es, es]
    unfold s_sl
    refine List.map_congr_left (fun k hk => ?_)
    rw [List.mem_range'_1] at hk
    exact cd_lo (by omega)
  obtain ⟨h1, h2, h3, h4, h5, h6, h7, h8, h9, h10, h11, h12⟩ := h
  unfold wf_A s_np s_nq s_tp s_nt s_rl wf_p wf_q wf_i wf_s s_np s_nq s_nt
  rw [e2 65 (by decide), e2 66 (by decide), e2 67 (by decide), e2 68 (by decide), e2 69 (by decide), e2 70 (by decide), e2 71 (by decide), e2 72 (by decide), e2 73 (by decide), e2 74 (by decide), e2 77 (by decide), e2 78 (by decide), e2 79 (by decide), e2 80 (by decide), e2 81 (by decide)]
  exact ⟨h1, h2, h3, h4, h5, h6, h7, h8, h9, fun t htt => ht t htt (h10 t htt), h11, h12⟩
theorem wt_cd {A : am_S} {l : List Int32} (h : wf_T A) : wf_T (cd_S A l) := by
  unfold wf_T s_tp s_nt
  have e2 : ∀ a, a ≠ 75 → cd_S A l a = A a := fun a ha => funext fun k => cd_x ha
  rw [e2 65 (by decide), e2 74 (by decide)]
  exact h
theorem wo_cd {A : am_S} {l : List Int32} (h : wo_A A) : wo_A (cd_S A l) := fun i hi => (cd_x (by decide)).trans (h i hi)
/-- what is held: the bottom first, at 85 -/
def hd_M (σ : am_M) : List Int32 → Prop
  | [] => True
  | c :: H => σ.2.1 85 H.length = c ∧ hd_M σ H
def hs_R (σ : am_M) (H : List Int32) (o : Nat) (l : List Int32) : Prop := σ.2.1 65 33 = nI H.length ∧ hd_M σ H ∧ σ.2.1 65 34 = nI o ∧ σ.2.1 65 35 = nI l.length
theorem hd_cg {σ τ : am_M} : ∀ {H : List Int32}, (∀ k, k < H.length → τ.2.1 85 k = σ.2.1 85 k) → hd_M σ H → hd_M τ H := by
  intro H
  induction H with
  | nil => intro _ _; trivial
  | cons c H ih =>
    intro h h2
    exact ⟨(h _ (by rw [List.length_cons]; omega)).trans h2.1, ih (fun k hk => h k (by rw [List.length_cons]; omega)) h2.2⟩
/-- only the reader's own fields, the held pile and the codes have changed -/
def fr_P (σ σ' : am_M) : Prop := σ'.1 = σ.1 ∧ σ'.2.2 = σ.2.2 ∧ ∀ x k, ¬ ((x = 65 ∧ 33 ≤ k ∧ k ≤ 35) ∨ x = 85 ∨ x = 75) → σ'.2.1 x k = σ.2.1 x k
theorem fr_P.rf {σ : am_M} : fr_P σ σ := ⟨rfl, rfl, fun _ _ _ => rfl⟩
theorem fr_P.tr {σ τ υ : am_M} (h : fr_P σ τ) (h2 : fr_P τ υ) : fr_P σ υ := ⟨h2.1.trans h.1, h2.2.1.trans h.2.1, fun x k hx => (h2.2.2 x k hx).trans (h.2.2 x k hx)⟩
theorem fr_P.wr {σ τ : am_M} {a k : Nat} {v : Int32} (ha : (a = 65 ∧ 33 ≤ k ∧ k ≤ 35) ∨ a = 85 ∨ a = 75) (h : fr_P σ τ) : fr_P σ (am_sI τ a k v) := by
  refine ⟨h.1, h.2.1, fun x y hx => ?_⟩
  rw [← h.2.2 x y hx]
  show am_up τ.2.1 a k v x y = τ.2.1 x y
  rw [am_un]
  rintro ⟨rfl, rfl⟩
  exact hx ha
theorem fr_P.tk {σ τ : am_M} {t : lx_T} (h : fr_P σ τ) (h2 : tk_R σ t) : tk_R τ t := by
  have e : ∀ k, 27 ≤ k → k ≤ 30 → τ.2.1 65 k = σ.2.1 65 k := fun k h1 h2 => h.2.2 65 k (by omega)
  exact ⟨(e 27 (by decide) (by decide)).trans h2.1, (e 28 (by decide) (by decide)).trans h2.2.1, (e 29 (by decide) (by decide)).trans h2.2.2.1, fun z => (e 30 (by decide) (by decide)).trans (h2.2.2.2 z)⟩
theorem fr_T.hs {σ τ : am_M} {H l : List Int32} {o : Nat} (h : fr_T σ τ) (h2 : hs_R σ H o l) : hs_R τ H o l := ⟨(h.2.2 65 33 (by omega)).trans h2.1, hd_cg (fun k _ => h.2.2 85 k (by omega)) h2.2.1, (h.2.2 65 34 (by omega)).trans h2.2.2.1, (h.2.2 65 35 (by omega)).trans h2.2.2.2⟩
theorem fr_P.M {σ τ : am_M} (h : fr_P σ τ) : fr_M σ τ := ⟨h.1, h.2.1, fun a ha => funext fun k => h.2.2 a k (by omega)⟩
theorem fr_T.M {σ τ : am_M} (h : fr_T σ τ) : fr_M σ τ := ⟨h.1, h.2.1, fun a ha => funext fun k => h.2.2 a k (by omega)⟩
