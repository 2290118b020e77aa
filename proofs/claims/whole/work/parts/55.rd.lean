/-! what is read grows with the place, and its pile is bounded -/
theorem rd_cd2 {x : Int32} (h : op_m x = true ∨ op_p x = true ∨ op_a x = true ∨ op_o x = true ∨ x = -10 ∨ x = -11) : rd_cd x = 11 ∨ rd_cd x = 12 ∨ rd_cd x = 14 ∨ rd_cd x = 15 ∨ rd_cd x = 16 ∨ rd_cd x = 17 ∨ rd_cd x = 18 := by
  unfold op_m op_p op_a op_o at h
  simp only [Bool.or_eq_true, decide_eq_true_eq] at h
  rcases h with rfl | (rfl | rfl) | rfl | rfl | rfl | rfl <;> decide
theorem rd_cdL {v : Nat} (h : v ≤ 9999) : wf_c (rd_cd (nI v)) = true ∧ s_leaf (rd_cd (nI v)) = true := by
  have e : rd_cd (nI v) = nI (100000 + v) := by
    unfold rd_cd
    rw [if_pos (show (0 : Int32) ≤ nI v from (nI_leI (a := 0) (b := v) (by decide) (by omega)).mpr (Nat.zero_le v))]
    exact nI_add 100000 v
  rw [e]
  have h1 : (100000 : Int32) ≤ nI (100000 + v) := (nI_leI (a := 100000) (b := 100000 + v) (by decide) (by omega)).mpr (by omega)
  have h2 : nI (100000 + v) ≤ (109999 : Int32) := (nI_leI (a := 100000 + v) (b := 109999) (by omega) (by decide)).mpr (by omega)
  refine ⟨?_, s_leafN h1⟩
  unfold wf_c
  rw [decide_eq_true h1, decide_eq_true h2]
  simp
/-- tokens that may be read as one step: a number or a name -/
def lx_num (t : lx_T) : Prop := -6 ≤ t.1 → (t.1 = -1 ∨ t.1 = -2 ∨ t.1 = -3 ∨ t.1 = -4 ∨ t.1 = -5 ∨ t.1 = -6) ∨ ∃ v, v ≤ 9999 ∧ t.1 = nI v
theorem rd_cdO {t : lx_T} (h : lx_num t) (h6 : -6 ≤ t.1) : wf_c (rd_cd t.1) = true ∧ s_leaf (rd_cd t.1) = true := by
  rcases h h6 with h | ⟨v, hv, e⟩
  · rcases h with e | e | e | e | e | e <;> rw [e] <;> decide
  · rw [e]; exact rd_cdL hv
def lx_K (n : Nat) (t : lx_T) : Prop := lx_ok n t ∧ lx_num t
/-- what holds of each part that is read: m is how much higher the pile grows -/
def rd_H (n m : Nat) (f : lx_T → lx_F) : Prop := ∀ t, lx_K n t → lx_K n (f t).2.2 ∧ t.2.1 ≤ (f t).2.2.2.1 ∧ ((f t).1 = true → (f t).2.1.length ≤ (f t).2.2.2.1 - t.2.1 ∧ 1 ≤ (f t).2.1.length ∧ ∀ d, d + m ≤ 32 → wf_d (f t).2.1 d = some (d + 1))
def rd_Y (n : Nat) (nx : Nat → lx_T) : Prop := ∀ a, a ≤ n → lx_K n (nx a) ∧ a ≤ (nx a).2.1
theorem rd_lpH {n m : Nat} {op : Int32 → Bool} {sub : lx_T → lx_F} {nx : Nat → lx_T} (hX : rd_Y n nx) (hs : rd_H n m sub) (ho : ∀ x, op x = true → x ≠ -22 ∧ (rd_cd x = 11 ∨ rd_cd x = 12 ∨ rd_cd x = 14 ∨ rd_cd x = 15 ∨ rd_cd x = 16 ∨ rd_cd x = 17 ∨ rd_cd x = 18)) (p : Nat) : ∀ (f : Nat) (l : List Int32) (t : lx_T), lx_K n t → p ≤ t.2.1 → l.length ≤ t.2.1 - p → 1 ≤ l.length → (∀ d, d + (m + 1) ≤ 32 → wf_d l d = some (d + 1)) →
    lx_K n (rd_lp op sub nx f l t).2.2 ∧ t.2.1 ≤ (rd_lp op sub nx f l t).2.2.2.1 ∧ ((rd_lp op sub nx f l t).1 = true → (rd_lp op sub nx f l t).2.1.length ≤ (rd_lp op sub nx f l t).2.2.2.1 - p ∧ 1 ≤ (rd_lp op sub nx f l t).2.1.length ∧ ∀ d, d + (m + 1) ≤ 32 → wf_d (rd_lp op sub nx f l t).2.1 d = some (d + 1)) := by
  intro f
  induction f with
  | zero => intro l t hK hp h1 h2 h3; exact ⟨hK, Nat.le_refl _, fun _ => ⟨h1, h2, h3⟩⟩
  | succ f ih =>
    intro l t hK hp h1 h2 h3
    have e : rd_lp op sub nx (f + 1) l t = if op t.1 then (if (sub (nx t.2.2)).1 then rd_lp op sub nx f (l ++ (sub (nx t.2.2)).2.1 ++ [rd_cd t.1]) (sub (nx t.2.2)).2.2 else (false, [], (sub (nx t.2.2)).2.2)) else (true, l, t) := rfl
    rw [e]
    by_cases hop : op t.1 = true
    · rw [if_pos hop]
      obtain ⟨hn, hc⟩ := ho _ hop
      obtain ⟨x1, x2⟩ := hX t.2.2 hK.1.2.1
      obtain ⟨y1, y2, y3⟩ := hs _ x1
      have hlt := hK.1.2.2.2 hn
      by_cases hok : (sub (nx t.2.2)).1 = true
      · rw [if_pos hok]
        obtain ⟨z1, z2, z3⟩ := y3 hok
        have := ih (l ++ (sub (nx t.2.2)).2.1 ++ [rd_cd t.1]) _ y1 (by omega) (by rw [List.length_append, List.length_append, List.length_singleton]; omega) (by rw [List.length_append, List.length_append, List.length_singleton]; omega) (fun d hd => by rw [List.append_assoc, wf_xA (h3 d hd), wf_xA (z3 (d + 1) (by omega))]; exact wf_x2 hc)
        exact ⟨this.1, by have := this.2.1; omega, this.2.2⟩
      · rw [if_neg hok]
        exact ⟨y1, Nat.le_trans (Nat.le_of_lt (Nat.lt_of_lt_of_le hlt x2)) y2, fun z => by cases z⟩
    · rw [if_neg hop]
      exact ⟨hK, Nat.le_refl _, fun _ => ⟨h1, h2, h3⟩⟩
theorem rd_chH {n m : Nat} {op : Int32 → Bool} {sub : lx_T → lx_F} {nx : Nat → lx_T} (hX : rd_Y n nx) (hs : rd_H n m sub) (ho : ∀ x, op x = true → x ≠ -22 ∧ (rd_cd x = 11 ∨ rd_cd x = 12 ∨ rd_cd x = 14 ∨ rd_cd x = 15 ∨ rd_cd x = 16 ∨ rd_cd x = 17 ∨ rd_cd x = 18)) : rd_H n (m + 1) (rd_ch op sub nx) := by
  intro t hK
  obtain ⟨y1, y2, y3⟩ := hs t hK
  have e : rd_ch op sub nx t = if (sub t).1 then rd_lp op sub nx 160 (sub t).2.1 (sub t).2.2 else (false, [], (sub t).2.2) := rfl
  rw [e]
  by_cases hok : (sub t).1 = true
  · rw [if_pos hok]
    obtain ⟨z1, z2, z3⟩ := y3 hok
    have := rd_lpH hX hs ho t.2.1 160 (sub t).2.1 (sub t).2.2 y1 y2 z1 z2 (fun d hd => z3 d (by omega))
    exact ⟨this.1, by have := this.2.1; omega, this.2.2⟩
  · rw [if_neg hok]
    exact ⟨y1, y2, fun z => by cases z⟩
theorem rd_oneH {n m : Nat} {k0 : Bool} {sE sO : lx_T → lx_F} {nx : Nat → lx_T} (hX : rd_Y n nx) (hm : 1 ≤ m) (h1 : k0 = true → rd_H n m sE ∧ rd_H n m sO) : rd_H n m (rd_one k0 sE sO nx) := by
  intro t hK
  unfold rd_one
  have hn6 : ∀ {x : Int32}, ¬ x = -22 → lx_ok n t → t.1 = x → t.2.1 < t.2.2 := fun hx h e => h.2.2.2 (by rw [e]; exact hx)
  by_cases c1 : -6 ≤ t.1
  · rw [if_pos c1]
    have hlt := hK.1.2.2.2 (by intro e; rw [e] at c1; exact absurd c1 (by decide))
    obtain ⟨x1, x2⟩ := hX t.2.2 hK.1.2.1
    obtain ⟨g1, g2⟩ := rd_cdO hK.2 c1
    exact ⟨x1, by show t.2.1 ≤ (nx t.2.2).2.1; omega, fun _ => ⟨by show 1 ≤ (nx t.2.2).2.1 - t.2.1; omega, Nat.le_refl _, fun d hd => wf_xF g1 g2 (by omega)⟩⟩
  · rw [if_neg c1]
    by_cases c2 : (t.1 ≠ -13 ∧ t.1 ≠ -16) ∨ k0 = false
    · rw [if_pos c2]
      exact ⟨hK, Nat.le_refl _, fun z => by cases z⟩
    · rw [if_neg c2]
      have hk : k0 = true := by cases k0 with
        | true => rfl
        | false => exact absurd (Or.inr rfl) c2
      obtain ⟨hE, hO⟩ := h1 hk
      have hne : t.1 ≠ -22 := by
        intro e
        exact c2 (Or.inl (by rw [e]; decide))
      have hlt := hK.1.2.2.2 hne
      obtain ⟨x1, x2⟩ := hX t.2.2 hK.1.2.1
      by_cases c3 : t.1 = -16
      · rw [if_pos c3]
        obtain ⟨y1, y2, y3⟩ := hE _ x1
        by_cases c4 : (sE (nx t.2.2)).1 = false ∨ (sE (nx t.2.2)).2.2.1 ≠ -17
        · rw [if_pos c4]
          exact ⟨y1, Nat.le_trans (Nat.le_of_lt (Nat.lt_of_lt_of_le hlt x2)) y2, fun z => by cases z⟩
        · rw [if_neg c4]
          have hok : (sE (nx t.2.2)).1 = true := by
            cases e : (sE (nx t.2.2)).1 with
            | true => rfl
            | false => exact absurd (Or.inl e) c4
          obtain ⟨z1, z2, z3⟩ := y3 hok
          obtain ⟨w1, w2⟩ := hX (sE (nx t.2.2)).2.2.2.2 y1.1.2.1
          have w3 := y1.1.2.2.1
          exact ⟨w1, by show t.2.1 ≤ (nx _).2.1; omega, fun _ => ⟨by show (sE (nx t.2.2)).2.1.length ≤ (nx _).2.1 - t.2.1; omega, z2, z3⟩⟩
      · rw [if_neg c3]
        obtain ⟨y1, y2, y3⟩ := hO _ x1
        by_cases hok : (sO (nx t.2.2)).1 = true
        · rw [if_pos hok]
          obtain ⟨z1, z2, z3⟩ := y3 hok
          refine ⟨y1, Nat.le_trans (Nat.le_of_lt (Nat.lt_of_lt_of_le hlt x2)) y2, fun _ => ⟨?_, ?_, fun d hd => ?_⟩⟩
          · show ((sO (nx t.2.2)).2.1 ++ [19]).length ≤ (sO (nx t.2.2)).2.2.2.1 - t.2.1
            rw [List.length_append, List.length_singleton]; omega
          · show 1 ≤ ((sO (nx t.2.2)).2.1 ++ [19]).length
            rw [List.length_append, List.length_singleton]; omega
          · show wf_d ((sO (nx t.2.2)).2.1 ++ [19]) d = some (d + 1)
            rw [wf_xA (z3 d hd)]
            exact wf_xU (Or.inr rfl)
        · rw [if_neg hok]
          exact ⟨y1, Nat.le_trans (Nat.le_of_lt (Nat.lt_of_lt_of_le hlt x2)) y2, fun z => by cases z⟩
theorem rd_notH {n m : Nat} {k0 : Bool} {sN sum : lx_T → lx_F} {nx : Nat → lx_T} (hX : rd_Y n nx) (hS : rd_H n m sum) (h1 : k0 = true → rd_H n (m + 1) sN) : rd_H n (m + 1) (rd_not k0 sN sum nx) := by
  intro t hK
  unfold rd_not
  by_cases c1 : t.1 = -9
  · rw [if_pos c1]
    have hlt := hK.1.2.2.2 (by rw [c1]; decide)
    by_cases c2 : k0 = false
    · rw [if_pos c2]
      exact ⟨hK, Nat.le_refl _, fun z => by cases z⟩
    · rw [if_neg c2]
      have hk : k0 = true := by cases k0 with
        | true => rfl
        | false => exact absurd rfl c2
      obtain ⟨x1, x2⟩ := hX t.2.2 hK.1.2.1
      obtain ⟨y1, y2, y3⟩ := h1 hk _ x1
      by_cases hok : (sN (nx t.2.2)).1 = true
      · rw [if_pos hok]
        obtain ⟨z1, z2, z3⟩ := y3 hok
        refine ⟨y1, Nat.le_trans (Nat.le_of_lt (Nat.lt_of_lt_of_le hlt x2)) y2, fun _ => ⟨?_, ?_, fun d hd => ?_⟩⟩
        · show ((sN (nx t.2.2)).2.1 ++ [13]).length ≤ (sN (nx t.2.2)).2.2.2.1 - t.2.1
          rw [List.length_append, List.length_singleton]; omega
        · show 1 ≤ ((sN (nx t.2.2)).2.1 ++ [13]).length
          rw [List.length_append, List.length_singleton]; omega
        · show wf_d ((sN (nx t.2.2)).2.1 ++ [13]) d = some (d + 1)
          rw [wf_xA (z3 d hd)]
          exact wf_xU (Or.inl rfl)
      · rw [if_neg hok]
        exact ⟨y1, Nat.le_trans (Nat.le_of_lt (Nat.lt_of_lt_of_le hlt x2)) y2, fun z => by cases z⟩
  · rw [if_neg c1]
    obtain ⟨y1, y2, y3⟩ := hS t hK
    by_cases c2 : (sum t).1 = false
    · rw [if_pos c2]
      exact ⟨y1, y2, fun z => by cases z⟩
    · rw [if_neg c2]
      have hok : (sum t).1 = true := by
        cases e : (sum t).1 with
        | true => rfl
        | false => exact absurd e c2
      obtain ⟨z1, z2, z3⟩ := y3 hok
      by_cases c3 : (sum t).2.2.1 ≠ -10 ∧ (sum t).2.2.1 ≠ -11
      · rw [if_pos c3]
        exact ⟨y1, y2, fun _ => ⟨z1, z2, fun d hd => z3 d (by omega)⟩⟩
      · rw [if_neg c3]
        have c4 : (sum t).2.2.1 = -10 ∨ (sum t).2.2.1 = -11 := by
          by_cases q : (sum t).2.2.1 = -10
          · exact Or.inl q
          · by_cases q2 : (sum t).2.2.1 = -11
            · exact Or.inr q2
            · exact absurd ⟨q, q2⟩ c3
        have hlt := y1.1.2.2.2 (by rcases c4 with e | e <;> rw [e] <;> decide)
        obtain ⟨x1, x2⟩ := hX (sum t).2.2.2.2 y1.1.2.1
        obtain ⟨u1, u2, u3⟩ := hS _ x1
        by_cases hk2 : (sum (nx (sum t).2.2.2.2)).1 = true
        · rw [if_pos hk2]
          obtain ⟨v1, v2, v3⟩ := u3 hk2
          refine ⟨u1, Nat.le_trans y2 (Nat.le_trans (Nat.le_of_lt (Nat.lt_of_lt_of_le hlt x2)) u2), fun _ => ⟨?_, ?_, fun d hd => ?_⟩⟩
          · show ((sum t).2.1 ++ (sum (nx (sum t).2.2.2.2)).2.1 ++ [rd_cd (sum t).2.2.1]).length ≤ (sum (nx (sum t).2.2.2.2)).2.2.2.1 - t.2.1
            rw [List.length_append, List.length_append, List.length_singleton]; omega
          · show 1 ≤ ((sum t).2.1 ++ (sum (nx (sum t).2.2.2.2)).2.1 ++ [rd_cd (sum t).2.2.1]).length
            rw [List.length_append, List.length_append, List.length_singleton]; omega
          · show wf_d ((sum t).2.1 ++ (sum (nx (sum t).2.2.2.2)).2.1 ++ [rd_cd (sum t).2.2.1]) d = some (d + 1)
            rw [List.append_assoc, wf_xA (z3 d (by omega)), wf_xA (v3 (d + 1) (by omega))]
            exact wf_x2 (rd_cd2 (Or.inr (Or.inr (Or.inr (Or.inr c4)))))
        · rw [if_neg hk2]
          exact ⟨u1, Nat.le_trans y2 (Nat.le_trans (Nat.le_of_lt (Nat.lt_of_lt_of_le hlt x2)) u2), fun z => by cases z⟩
theorem op_mH : ∀ x, op_m x = true → x ≠ -22 ∧ (rd_cd x = 11 ∨ rd_cd x = 12 ∨ rd_cd x = 14 ∨ rd_cd x = 15 ∨ rd_cd x = 16 ∨ rd_cd x = 17 ∨ rd_cd x = 18) := fun x h => ⟨by intro e; rw [e] at h; exact absurd h (by decide), rd_cd2 (Or.inl h)⟩
theorem op_pH : ∀ x, op_p x = true → x ≠ -22 ∧ (rd_cd x = 11 ∨ rd_cd x = 12 ∨ rd_cd x = 14 ∨ rd_cd x = 15 ∨ rd_cd x = 16 ∨ rd_cd x = 17 ∨ rd_cd x = 18) := fun x h => ⟨by intro e; rw [e] at h; exact absurd h (by decide), rd_cd2 (Or.inr (Or.inl h))⟩
theorem op_aH : ∀ x, op_a x = true → x ≠ -22 ∧ (rd_cd x = 11 ∨ rd_cd x = 12 ∨ rd_cd x = 14 ∨ rd_cd x = 15 ∨ rd_cd x = 16 ∨ rd_cd x = 17 ∨ rd_cd x = 18) := fun x h => ⟨by intro e; rw [e] at h; exact absurd h (by decide), rd_cd2 (Or.inr (Or.inr (Or.inl h)))⟩
theorem op_oH : ∀ x, op_o x = true → x ≠ -22 ∧ (rd_cd x = 11 ∨ rd_cd x = 12 ∨ rd_cd x = 14 ∨ rd_cd x = 15 ∨ rd_cd x = 16 ∨ rd_cd x = 17 ∨ rd_cd x = 18) := fun x h => ⟨by intro e; rw [e] at h; exact absurd h (by decide), rd_cd2 (Or.inr (Or.inr (Or.inr (Or.inl h))))⟩
theorem rd_bH {n m : Nat} {k0 : Bool} {s : (lx_T → lx_F) × (lx_T → lx_F) × (lx_T → lx_F)} {nx : Nat → lx_T} (hX : rd_Y n nx) (hm : 1 ≤ m) (h1 : k0 = true → rd_H n m s.2.2 ∧ rd_H n m s.1 ∧ rd_H n (m + 3) s.2.1) : rd_H n m (rd_O nx k0 s) ∧ rd_H n (m + 1) (rd_ch op_m (rd_O nx k0 s) nx) ∧ rd_H n (m + 2) (rd_S nx k0 s) ∧ rd_H n (m + 3) (rd_N nx k0 s) ∧ rd_H n (m + 4) (rd_ch op_a (rd_N nx k0 s) nx) ∧ rd_H n (m + 5) (rd_E nx k0 s) := by
  have a1 : rd_H n m (rd_O nx k0 s) := rd_oneH hX hm (fun h => ⟨(h1 h).1, (h1 h).2.1⟩)
  have a2 := rd_chH hX a1 op_mH
  have a3 : rd_H n (m + 2) (rd_S nx k0 s) := rd_chH hX a2 op_pH
  have a4 : rd_H n (m + 3) (rd_N nx k0 s) := rd_notH hX a3 (fun h => (h1 h).2.2)
  have a5 := rd_chH hX a4 op_aH
  exact ⟨a1, a2, a3, a4, a5, rd_chH hX a5 op_oH⟩
