/-! the reference: the next token -/
/-- only the token's four fields have changed -/
def fr_T (σ σ' : am_M) : Prop := σ'.1 = σ.1 ∧ σ'.2.2 = σ.2.2 ∧ ∀ x k, ¬ (x = 65 ∧ 27 ≤ k ∧ k ≤ 30) → σ'.2.1 x k = σ.2.1 x k
theorem fr_T.rf {σ : am_M} : fr_T σ σ := ⟨rfl, rfl, fun _ _ _ => rfl⟩
theorem fr_T.tr {σ τ υ : am_M} (h : fr_T σ τ) (h2 : fr_T τ υ) : fr_T σ υ := ⟨h2.1.trans h.1, h2.2.1.trans h.2.1, fun x k hx => (h2.2.2 x k hx).trans (h.2.2 x k hx)⟩
theorem fr_T.wr {σ τ : am_M} {a k : Nat} {v : Int32} (ha : a = 65 ∧ 27 ≤ k ∧ k ≤ 30) (h : fr_T σ τ) : fr_T σ (am_sI τ a k v) := by
  refine ⟨h.1, h.2.1, fun x y hx => ?_⟩
  rw [← h.2.2 x y hx]
  show am_up τ.2.1 a k v x y = τ.2.1 x y
  rw [am_un]
  rintro ⟨rfl, rfl⟩
  exact hx ha
def mt_t (x : Int32) : Int32 := if 0 ≤ x then 1 else if -6 ≤ x then 2 else if x = -7 then 4 else if x = -8 then 5 else if x = -9 then 6 else if x = -10 then 60 else if x = -11 then 61 else if x = -12 then 43 else if x = -13 then 45 else if x = -14 then 42 else if x = -16 then 40 else if x = -17 then 41 else if x = -18 then 59 else if x = -19 ∨ x = -20 ∨ x = -21 then 3 else if x = -22 then 0 else -1
def mt_v (x : Int32) : Int32 := if 0 ≤ x then x else if -6 ≤ x then -1 - x else -19 - x
def mt_n (x : Int32) : Prop := -6 ≤ x ∨ x = -19 ∨ x = -20 ∨ x = -21
def tk_R (σ : am_M) (t : lx_T) : Prop := σ.2.1 65 27 = nI t.2.2 ∧ σ.2.1 65 28 = nI t.2.1 ∧ σ.2.1 65 29 = mt_t t.1 ∧ (mt_n t.1 → σ.2.1 65 30 = mt_v t.1)
def am_qT (A : am_S) (t : lx_T) (σ0 : am_M) : Option Value → am_M → Prop := fun r σ' => r = none ∧ iv_M A σ' ∧ fr_T σ0 σ' ∧ tk_R σ' t
theorem lx_wilt {b : Nat → Int32} {p q : Nat} : lx_wi b p q ≤ 12 := by
  have h : ∀ m w, w + m = 12 → lx_wf b p q m w ≤ 12 := by
    intro m
    induction m with
    | zero => intro w _; exact Nat.le_refl _
    | succ m ih =>
      intro w hw
      show (if lx_m b p q w then w else lx_wf b p q m (w + 1)) ≤ 12
      have := ih (w + 1) (by omega)
      split <;> omega
  exact h 12 0 rfl
theorem mt_tw {w : Nat} (h : w ≤ 12) : mt_t (lx_tw w) = (if w < 3 then 3 else if w < 9 then 2 else if w = 12 then -1 else 4 + nI w - 9) ∧ (mt_n (lx_tw w) → mt_v (lx_tw w) = (if w < 3 then nI w else nI w - 3)) := by
  rcases (show w = 0 ∨ w = 1 ∨ w = 2 ∨ w = 3 ∨ w = 4 ∨ w = 5 ∨ w = 6 ∨ w = 7 ∨ w = 8 ∨ w = 9 ∨ w = 10 ∨ w = 11 ∨ w = 12 by omega) with rfl | rfl | rfl | rfl | rfl | rfl | rfl | rfl | rfl | rfl | rfl | rfl | rfl <;> refine ⟨by decide, ?_⟩ <;> unfold mt_n <;> decide
theorem mt_sg {v : Int32} : mt_t (s_sg v) = (if v = 40 ∨ v = 41 ∨ v = 59 ∨ v = 43 ∨ v = 45 ∨ v = 42 ∨ v = 60 ∨ v = 61 then v else -1) ∧ ¬ mt_n (s_sg v) := by
  unfold s_sg
  by_cases c1 : v = 40
  · subst c1; exact ⟨by decide, by unfold mt_n; decide⟩
  · rw [if_neg c1]
    by_cases c2 : v = 41
    · subst c2; exact ⟨by decide, by unfold mt_n; decide⟩
    · rw [if_neg c2]
      by_cases c3 : v = 59
      · subst c3; exact ⟨by decide, by unfold mt_n; decide⟩
      · rw [if_neg c3]
        by_cases c4 : v = 43
        · subst c4; exact ⟨by decide, by unfold mt_n; decide⟩
        · rw [if_neg c4]
          by_cases c5 : v = 45
          · subst c5; exact ⟨by decide, by unfold mt_n; decide⟩
          · rw [if_neg c5]
            by_cases c6 : v = 42
            · subst c6; exact ⟨by decide, by unfold mt_n; decide⟩
            · rw [if_neg c6]
              by_cases c7 : v = 60
              · subst c7; exact ⟨by decide, by unfold mt_n; decide⟩
              · rw [if_neg c7]
                by_cases c8 : v = 61
                · subst c8; exact ⟨by decide, by unfold mt_n; decide⟩
                · rw [if_neg c8, if_neg (by simp [c1, c2, c3, c4, c5, c6, c7, c8])]
                  exact ⟨by decide, by unfold mt_n; decide⟩
