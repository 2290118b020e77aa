/-! a text's steps, one by one -/
theorem s_slN {A : am_S} {t k e : Nat} (h : e ≤ k) : s_sl A t k e = [] := by
  unfold s_sl
  rw [show e - k = 0 by omega]
  rfl
theorem s_slC {A : am_S} {t k e : Nat} (h : k < e) : s_sl A t k e = A 75 (200 * t + k) :: s_sl A t (k + 1) e := by
  unfold s_sl
  rw [show e - k = (e - (k + 1)) + 1 by omega, List.range'_succ]
  rfl
theorem s_leafI {c : Int32} : s_leaf c = true ↔ (100000 ≤ c ∨ c < 11) := by unfold s_leaf; simp
theorem wf_cs {c : Int32} (h : wf_c c = true) : (100000 ≤ c ∧ c ≤ 109999) ∨ (∃ j, j < 6 ∧ c = nI j) ∨ c = 13 ∨ c = 19 ∨ (11 ≤ c ∧ c < 100000 ∧ c ≠ 13 ∧ c ≠ 19) := by
  unfold wf_c at h
  simp only [Bool.or_eq_true, Bool.and_eq_true, decide_eq_true_eq] at h
  rcases h with ((((((((((h | h) | h) | h) | h) | h) | h) | h) | h) | h) | h)
  · right; left
    obtain ⟨j, hj, e⟩ := (am_rgl (x := c) (c := 5) (n := 6) (by decide)).mp ⟨h.1, by have := h.2; simp only [Int32.lt_iff_toInt_lt, Int32.le_iff_toInt_le, Int32.reduceToInt] at *; omega⟩
    exact ⟨j, hj, e⟩
  · exact Or.inl h
  all_goals (subst h; simp)
theorem s_leafN {c : Int32} (h : 100000 ≤ c) : s_leaf c = true := s_leafI.mpr (Or.inl h)
theorem s_leafJ {j : Nat} (h : j < 6) : s_leaf (nI j) = true := s_leafI.mpr (Or.inr (show nI j < nI 11 from nI_lt (by omega) (by decide)))
theorem s_leafF {c : Int32} (h1 : 11 ≤ c) (h2 : c < 100000) : s_leaf c = false := by
  cases e : s_leaf c with
  | false => rfl
  | true =>
    rcases s_leafI.mp e with h | h
    · exact absurd h (Int32.not_le.mpr h2)
    · exact absurd h (Int32.not_lt.mpr h1)
theorem wf_d1 {c : Int32} {cs : List Int32} {d r : Nat} (h : wf_d (c :: cs) d = some r) : wf_c c = true := by
  unfold wf_d at h
  cases e : wf_c c with
  | true => rfl
  | false => rw [e] at h; simp at h
theorem wf_dL {c : Int32} {cs : List Int32} {d r : Nat} (h : wf_d (c :: cs) d = some r) (hl : s_leaf c = true) : d < 32 ∧ wf_d cs (d + 1) = some r := by
  have hc := wf_d1 h
  unfold wf_d at h
  rw [hc, hl] at h
  simp only [Bool.true_eq_false, if_false, if_true] at h
  by_cases hd : d < 32
  · rw [if_pos hd] at h; exact ⟨hd, h⟩
  · rw [if_neg hd] at h; cases h
theorem wf_dU {c : Int32} {cs : List Int32} {d r : Nat} (h : wf_d (c :: cs) d = some r) (hl : c = 13 ∨ c = 19) : 0 < d ∧ wf_d cs d = some r := by
  have hc := wf_d1 h
  have hf : s_leaf c = false := by rcases hl with rfl | rfl <;> rfl
  unfold wf_d at h
  rw [hc, hf, if_pos hl] at h
  simp only [Bool.true_eq_false, Bool.false_eq_true, if_false] at h
  by_cases hd : 0 < d
  · rw [if_pos hd] at h; exact ⟨hd, h⟩
  · rw [if_neg hd] at h; cases h
theorem wf_dB {c : Int32} {cs : List Int32} {d r : Nat} (h : wf_d (c :: cs) d = some r) (hf : s_leaf c = false) (hl : ¬ (c = 13 ∨ c = 19)) : 2 ≤ d ∧ wf_d cs (d - 1) = some r := by
  have hc := wf_d1 h
  unfold wf_d at h
  rw [hc, hf, if_neg hl] at h
  simp only [Bool.true_eq_false, Bool.false_eq_true, if_false] at h
  by_cases hd : 2 ≤ d
  · rw [if_pos hd] at h; exact ⟨hd, h⟩
  · rw [if_neg hd] at h; cases h
theorem s_runC {nm : Nat → Int32} {c : Int32} {cs st : List Int32} : s_run nm (c :: cs) st = s_run nm cs (s_one nm c st) := rfl
theorem s_oneN {nm : Nat → Int32} {c : Int32} {st : List Int32} (h : 100000 ≤ c) : s_one nm c st = (c - 100000) :: st := by
  unfold s_one
  rw [s_leafN h, if_pos rfl, if_neg]
  simp only [Int32.lt_iff_toInt_lt, Int32.le_iff_toInt_le, Int32.reduceToInt] at *
  omega
theorem s_oneJ {nm : Nat → Int32} {j : Nat} {st : List Int32} (h : j < 6) : s_one nm (nI j) st = nm j :: st := by
  unfold s_one
  rw [s_leafJ h, if_pos rfl, if_pos (show nI j < 11 from (nI_lt (by omega) (by decide) : nI j < nI 11)), sN_n (by omega)]
theorem s_one13 {nm : Nat → Int32} {a : Int32} {t : List Int32} : s_one nm 13 (a :: t) = (if a = 0 then 1 else 0) :: t := rfl
theorem s_one19 {nm : Nat → Int32} {a : Int32} {t : List Int32} : s_one nm 19 (a :: t) = (-a) :: t := rfl
theorem s_oneB {nm : Nat → Int32} {c a b : Int32} {t : List Int32} (h1 : 11 ≤ c) (h2 : c < 100000) (h3 : c ≠ 13) (h4 : c ≠ 19) : s_one nm c (b :: a :: t) = s_tw c a b :: t := by
  unfold s_one
  rw [s_leafF h1 h2, if_neg (by decide), if_neg h3, if_neg h4]
/-- the pile lies in an array, its top last -/
def s_ps (σ : am_M) (a : Nat) (st : List Int32) : Prop := ∀ (j : Nat) (v : Int32), st.reverse[j]? = some v → σ.2.1 a j = v
theorem s_ps0 {σ : am_M} {a : Nat} : s_ps σ a [] := fun j v h => by simp at h
theorem s_psT {σ : am_M} {a : Nat} {x : Int32} {t : List Int32} (h : s_ps σ a (x :: t)) : σ.2.1 a t.length = x := by
  refine h t.length x ?_
  rw [List.reverse_cons, List.getElem?_append_right (by rw [List.length_reverse]; exact Nat.le_refl _), List.length_reverse, Nat.sub_self]
  rfl
theorem s_psd {σ : am_M} {a : Nat} {x : Int32} {t : List Int32} (h : s_ps σ a (x :: t)) : s_ps σ a t := by
  intro j v hj
  refine h j v ?_
  have hl := (List.getElem?_eq_some_iff.mp hj).1
  rw [List.reverse_cons, List.getElem?_append_left hl]
  exact hj
theorem s_psp {σ : am_M} {a : Nat} {t : List Int32} {v : Int32} (h : s_ps σ a t) : s_ps (am_sI σ a t.length v) a (v :: t) := by
  intro j w hj
  rw [List.reverse_cons] at hj
  rcases Nat.lt_or_ge j t.length with q | q
  · rw [List.getElem?_append_left (by rw [List.length_reverse]; exact q)] at hj
    exact am_ru (by omega) (h j w hj)
  · rw [List.getElem?_append_right (by rw [List.length_reverse]; exact q), List.length_reverse] at hj
    have hz : j - t.length < 1 := (List.getElem?_eq_some_iff.mp hj).1
    have e : j = t.length := by omega
    subst e
    rw [Nat.sub_self] at hj
    cases hj
    exact am_rs
theorem s_psk {σ : am_M} {a b k : Nat} {v : Int32} {t : List Int32} (hb : a ≠ b) (h : s_ps σ a t) : s_ps (am_sI σ b k v) a t := fun j w hj => am_ru (by omega) (h j w hj)
/-- the names lie in an array -/
def s_na (σ : am_M) (a : Nat) (nm : Nat → Int32) : Prop := ∀ j, j < 6 → σ.2.1 a j = nm j
theorem s_nak {σ : am_M} {a b k : Nat} {v : Int32} {nm : Nat → Int32} (hb : a ≠ b) (h : s_na σ a nm) : s_na (am_sI σ b k v) a nm := fun j hj => am_ru (by omega) (h j hj)
