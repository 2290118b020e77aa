/-! the reference's reader as a machine, and that it reads as the descent does -/
def uw (r : Int32) : List Int32 → Nat → List Int32 → List Int32 × Nat × List Int32
  | [], o, l => ([], o, l)
  | c :: H, o, l => if s_rk c < r then (c :: H, o, l) else uw r H (if c = 13 ∨ c = 19 then o - 1 else o) (l ++ [c])
def mr_tp (r : Int32) (H : List Int32) : Prop := match H with
  | [] => True
  | c :: _ => s_rk c < r
def mr_4 (H : List Int32) : Bool := match H with
  | [] => false
  | c :: _ => decide (s_rk c = 4)
def mr_op (x : Int32) : Bool := op_m x || op_p x || op_a x || op_o x || decide (x = -10) || decide (x = -11)
def mr_r (x : Int32) : Int32 := if s_rk (rd_cd x) = 4 then 5 else s_rk (rd_cd x)
def mr (nx : Nat → lx_T) : Nat → Bool → Bool → List Int32 → Nat → List Int32 → lx_T → Option (Bool × List Int32 × lx_T)
  | 0, _, _, _, _, _, _ => none
  | f + 1, w, fr, H, o, l, t =>
    if w = true then
      if -6 ≤ t.1 then mr nx f false fr (uw 7 H o (l ++ [rd_cd t.1])).1 (uw 7 H o (l ++ [rd_cd t.1])).2.1 (uw 7 H o (l ++ [rd_cd t.1])).2.2 (nx t.2.2)
      else if t.1 = -9 then (if fr = true ∧ o < 5 then mr nx f true fr (13 :: H) (o + 1) l (nx t.2.2) else some (false, l, t))
      else if t.1 = -13 then (if o < 5 then mr nx f true false (19 :: H) (o + 1) l (nx t.2.2) else some (false, l, t))
      else if t.1 = -16 then (if o < 5 then mr nx f true true (0 :: H) (o + 1) l (nx t.2.2) else some (false, l, t))
      else some (false, l, t)
    else if t.1 = -18 then some (decide ((uw 1 H o l).1 = []), (uw 1 H o l).2.2, t)
    else if t.1 = -17 then (match (uw 1 H o l).1 with
      | [] => some (false, l, t)
      | _ :: H2 => mr nx f false fr (uw 7 H2 ((uw 1 H o l).2.1 - 1) (uw 1 H o l).2.2).1 (uw 7 H2 ((uw 1 H o l).2.1 - 1) (uw 1 H o l).2.2).2.1 (uw 7 H2 ((uw 1 H o l).2.1 - 1) (uw 1 H o l).2.2).2.2 (nx t.2.2))
    else if mr_op t.1 = true then (if s_rk (rd_cd t.1) = 4 ∧ mr_4 (uw (mr_r t.1) H o l).1 = true then some (false, l, t) else mr nx f true (decide (rd_cd t.1 ≤ 12)) (rd_cd t.1 :: (uw (mr_r t.1) H o l).1) (uw (mr_r t.1) H o l).2.1 (uw (mr_r t.1) H o l).2.2 (nx t.2.2))
    else some (false, l, t)
theorem uw_nil {r : Int32} {o : Nat} {l : List Int32} : uw r [] o l = ([], o, l) := rfl
theorem uw_lo {r : Int32} {H : List Int32} {o : Nat} {l : List Int32} (h : mr_tp r H) : uw r H o l = (H, o, l) := by
  cases H with
  | nil => rfl
  | cons c H => exact if_pos h
theorem uw_hi {r c : Int32} {H : List Int32} {o : Nat} {l : List Int32} (h : ¬ s_rk c < r) : uw r (c :: H) o l = uw r H (if c = 13 ∨ c = 19 then o - 1 else o) (l ++ [c]) := if_neg h
theorem uw_uw {r s : Int32} (hrs : r ≤ s) : ∀ {H : List Int32} {o : Nat} {l : List Int32}, uw r (uw s H o l).1 (uw s H o l).2.1 (uw s H o l).2.2 = uw r H o l := by
  intro H
  induction H with
  | nil => intro o l; rfl
  | cons c H ih =>
    intro o l
    by_cases h : s_rk c < s
    · rw [show uw s (c :: H) o l = (c :: H, o, l) from if_pos h]
    · rw [uw_hi h, ih, uw_hi (fun z => h (Int32.lt_of_lt_of_le z hrs))]
/-- two piles that stand alike once unwound -/
theorem uw_eq {r s : Int32} (hrs : r ≤ s) {H H' : List Int32} {o o' : Nat} {l l' : List Int32} (h : uw s H' o' l' = uw s H o l) : uw r H' o' l' = uw r H o l := by
  rw [← uw_uw hrs (H := H') (o := o') (l := l'), h, uw_uw hrs]
abbrev mr_X : Type := Int32 → List Int32 → Nat → List Int32 → Prop
def mr_P (frb : Bool) (fr : Bool) (t : lx_T) : Prop := if frb = true then fr = true else (t.1 = -9 → fr = false)
/-- the machine reads what f reads: unwound to r; the pile's top below rt -/
def mr_S (n : Nat) (nx : Nat → lx_T) (f : lx_T → lx_F) (o : Nat) (r rt : Int32) (frb : Bool) (Ex : mr_X) : Prop :=
  ∀ (H l : List Int32) (t : lx_T) (fr : Bool), mr_tp rt H → mr_P frb fr t → lx_K n t →
    ((f t).1 = false → ∃ k, ∀ F, ∃ l2, mr nx (F + k) true fr H o l t = some (false, l2, (f t).2.2)) ∧
    ((f t).1 = true → ∃ k fr2 H2 o2 l2, (∀ F, mr nx (F + k) true fr H o l t = mr nx F false fr2 H2 o2 l2 (f t).2.2) ∧ uw r H2 o2 l2 = uw r H o (l ++ (f t).2.1) ∧ Ex (f t).2.2.1 H2 o2 l2)
theorem mr_opS {nx : Nat → lx_T} {F : Nat} {fr : Bool} {H l : List Int32} {o : Nat} {t : lx_T} (h : mr_op t.1 = true) (h4 : ¬ s_rk (rd_cd t.1) = 4) : mr nx (F + 1) false fr H o l t = mr nx F true (decide (rd_cd t.1 ≤ 12)) (rd_cd t.1 :: (uw (s_rk (rd_cd t.1)) H o l).1) (uw (s_rk (rd_cd t.1)) H o l).2.1 (uw (s_rk (rd_cd t.1)) H o l).2.2 (nx t.2.2) := by
  have h1 : ¬ t.1 = -18 := by intro e; rw [e] at h; exact absurd h (by decide)
  have h2 : ¬ t.1 = -17 := by intro e; rw [e] at h; exact absurd h (by decide)
  have er : mr_r t.1 = s_rk (rd_cd t.1) := if_neg h4
  rw [← er]
  exact (if_neg (by decide)).trans ((if_neg h1).trans ((if_neg h2).trans ((if_pos h).trans (if_neg (fun z => h4 z.1)))))
theorem mr_op4 {nx : Nat → lx_T} {F : Nat} {fr : Bool} {H l : List Int32} {o : Nat} {t : lx_T} (h : t.1 = -10 ∨ t.1 = -11) (h4 : mr_4 (uw 5 H o l).1 = false) : mr nx (F + 1) false fr H o l t = mr nx F true false (rd_cd t.1 :: (uw 5 H o l).1) (uw 5 H o l).2.1 (uw 5 H o l).2.2 (nx t.2.2) := by
  have e0 : mr_op t.1 = true := by rcases h with e | e <;> rw [e] <;> decide
  have h1 : ¬ t.1 = -18 := by rcases h with e | e <;> rw [e] <;> decide
  have h2 : ¬ t.1 = -17 := by rcases h with e | e <;> rw [e] <;> decide
  have er : mr_r t.1 = 5 := by rcases h with e | e <;> rw [e] <;> decide
  have e12 : decide (rd_cd t.1 ≤ 12) = false := by rcases h with e | e <;> rw [e] <;> decide
  refine (if_neg (by decide)).trans ((if_neg h1).trans ((if_neg h2).trans ((if_pos e0).trans ?_)))
  rw [er, e12]
  exact if_neg (fun z => by rw [h4] at z; exact absurd z.2 (by decide))
theorem mr_op4F {nx : Nat → lx_T} {F : Nat} {fr : Bool} {H l : List Int32} {o : Nat} {t : lx_T} (h : t.1 = -10 ∨ t.1 = -11) (h4 : mr_4 (uw 5 H o l).1 = true) : mr nx (F + 1) false fr H o l t = some (false, l, t) := by
  have e0 : mr_op t.1 = true := by rcases h with e | e <;> rw [e] <;> decide
  have h1 : ¬ t.1 = -18 := by rcases h with e | e <;> rw [e] <;> decide
  have h2 : ¬ t.1 = -17 := by rcases h with e | e <;> rw [e] <;> decide
  have er : mr_r t.1 = 5 := by rcases h with e | e <;> rw [e] <;> decide
  have e4 : s_rk (rd_cd t.1) = 4 := by rcases h with e | e <;> rw [e] <;> decide
  refine (if_neg (by decide)).trans ((if_neg h1).trans ((if_neg h2).trans ((if_pos e0).trans ?_)))
  rw [er]
  exact if_pos ⟨e4, h4⟩
theorem mr_tpm {r s : Int32} {H : List Int32} (hrs : r ≤ s) (h : mr_tp r H) : mr_tp s H := by
  cases H with
  | nil => trivial
  | cons c H => exact Int32.lt_of_lt_of_le h hrs
/-- what a chain's sign must be like -/
def mr_O (op : Int32 → Bool) (r : Int32) (frb : Bool) : Prop := ∀ x, op x = true → mr_op x = true ∧ s_rk (rd_cd x) = r ∧ ¬ (rd_cd x = 13 ∨ rd_cd x = 19) ∧ decide (rd_cd x ≤ 12) = frb ∧ x ≠ -22
theorem mr_lp {n m : Nat} {nx : Nat → lx_T} {op : Int32 → Bool} {sub : lx_T → lx_F} {o : Nat} {r rs rst : Int32} {frb : Bool} {Ex : mr_X} (hn : n ≤ 160) (hX : rd_Y n nx) (hH : rd_H n m sub) (hS : mr_S n nx sub o rs rst frb Ex) (hop : mr_O op r frb) (h4 : ¬ r = 4) (hr1 : r ≤ rs) (hr2 : r < rst) (H l : List Int32) (hT : mr_tp r H) :
    ∀ (f : Nat) (cs : List Int32) (t : lx_T) (fr : Bool) (H2 : List Int32) (o2 : Nat) (l2 : List Int32), lx_K n t → 161 ≤ f + t.2.1 → uw r H2 o2 l2 = (H, o, l ++ cs) → Ex t.1 H2 o2 l2 →
    ((rd_lp op sub nx f cs t).1 = false → ∃ k, ∀ F, ∃ l3, mr nx (F + k) false fr H2 o2 l2 t = some (false, l3, (rd_lp op sub nx f cs t).2.2)) ∧
    ((rd_lp op sub nx f cs t).1 = true → ∃ k fr3 H3 o3 l3, (∀ F, mr nx (F + k) false fr H2 o2 l2 t = mr nx F false fr3 H3 o3 l3 (rd_lp op sub nx f cs t).2.2) ∧ uw r H3 o3 l3 = (H, o, l ++ (rd_lp op sub nx f cs t).2.1) ∧ Ex (rd_lp op sub nx f cs t).2.2.1 H3 o3 l3 ∧ op (rd_lp op sub nx f cs t).2.2.1 = false) := by
  intro f
  induction f with
  | zero =>
    intro cs t fr H2 o2 l2 hK hf hu hE
    exact absurd hK.1.1 (by omega)
  | succ f ih =>
    intro cs t fr H2 o2 l2 hK hf hu hE
    have e : rd_lp op sub nx (f + 1) cs t = if op t.1 then (if (sub (nx t.2.2)).1 then rd_lp op sub nx f (cs ++ (sub (nx t.2.2)).2.1 ++ [rd_cd t.1]) (sub (nx t.2.2)).2.2 else (false, [], (sub (nx t.2.2)).2.2)) else (true, cs, t) := rfl
    rw [e]
    by_cases c1 : op t.1 = true
    · rw [if_pos c1]
      obtain ⟨g1, g2, g3, g4, g5⟩ := hop _ c1
      have hlt := hK.1.2.2.2 g5
      obtain ⟨x1, x2⟩ := hX t.2.2 hK.1.2.1
      obtain ⟨y1, y2, y3⟩ := hH _ x1
      have st : ∀ F, mr nx (F + 1) false fr H2 o2 l2 t = mr nx F true frb (rd_cd t.1 :: H) o (l ++ cs) (nx t.2.2) := fun F => by
        rw [mr_opS g1 (by rw [g2]; exact h4), g2, hu, g4]
      have hT2 : mr_tp rst (rd_cd t.1 :: H) := by show s_rk (rd_cd t.1) < rst; rw [g2]; exact hr2
      have hP : mr_P frb frb (nx t.2.2) := by
        unfold mr_P
        cases frb with
        | true => rfl
        | false => exact fun _ => rfl
      obtain ⟨s1, s2⟩ := hS (rd_cd t.1 :: H) (l ++ cs) (nx t.2.2) frb hT2 hP x1
      by_cases c2 : (sub (nx t.2.2)).1 = true
      · rw [if_pos c2]
        obtain ⟨z1, z2, z3⟩ := y3 c2
        obtain ⟨k, fr3, H3, o3, l3, q1, q2, q3⟩ := s2 c2
        have hu3 : uw r H3 o3 l3 = (H, o, l ++ (cs ++ (sub (nx t.2.2)).2.1 ++ [rd_cd t.1])) := by
          rw [uw_eq hr1 q2, uw_hi (by rw [g2]; exact Int32.lt_irrefl), if_neg g3, uw_lo hT]
          simp only [List.append_assoc]
        obtain ⟨i1, i2⟩ := ih (cs ++ (sub (nx t.2.2)).2.1 ++ [rd_cd t.1]) (sub (nx t.2.2)).2.2 fr3 H3 o3 l3 y1 (by omega) hu3 q3
        have sq : ∀ F, mr nx (F + (k + 1)) false fr H2 o2 l2 t = mr nx F false fr3 H3 o3 l3 (sub (nx t.2.2)).2.2 := fun F => by
          rw [show F + (k + 1) = (F + k) + 1 by omega, st, q1]
        refine ⟨fun hf2 => ?_, fun ht2 => ?_⟩
        · obtain ⟨k2, j⟩ := i1 hf2
          exact ⟨k2 + (k + 1), fun F => by rw [← Nat.add_assoc, sq]; exact j F⟩
        · obtain ⟨k2, fr4, H4, o4, l4, j1, j2⟩ := i2 ht2
          exact ⟨k2 + (k + 1), fr4, H4, o4, l4, fun F => by rw [← Nat.add_assoc, sq]; exact j1 F, j2⟩
      · rw [if_neg c2]
        refine ⟨fun _ => ?_, fun z => by cases z⟩
        obtain ⟨k, j⟩ := s1 (Bool.eq_false_iff.mpr c2)
        exact ⟨k + 1, fun F => by rw [show F + (k + 1) = (F + k) + 1 by omega, st]; exact j F⟩
    · rw [if_neg c1]
      exact ⟨fun z => (by cases z), fun _ => ⟨0, fr, H2, o2, l2, fun F => rfl, hu, hE, Bool.eq_false_iff.mpr c1⟩⟩
theorem mr_ch {n m : Nat} {nx : Nat → lx_T} {op : Int32 → Bool} {sub : lx_T → lx_F} {o : Nat} {r rs rst : Int32} {frb : Bool} {Ex : mr_X} (hn : n ≤ 160) (hX : rd_Y n nx) (hH : rd_H n m sub) (hS : mr_S n nx sub o rs rst frb Ex) (hop : mr_O op r frb) (h4 : ¬ r = 4) (hr1 : r ≤ rs) (hr2 : r < rst) : mr_S n nx (rd_ch op sub nx) o r r frb (fun x H o l => Ex x H o l ∧ op x = false) := by
  intro H l t fr hT hP hK
  obtain ⟨s1, s2⟩ := hS H l t fr (mr_tpm (Int32.le_of_lt hr2) hT) hP hK
  obtain ⟨y1, y2, y3⟩ := hH t hK
  have e : rd_ch op sub nx t = if (sub t).1 then rd_lp op sub nx 160 (sub t).2.1 (sub t).2.2 else (false, [], (sub t).2.2) := rfl
  rw [e]
  by_cases c : (sub t).1 = true
  · rw [if_pos c]
    obtain ⟨z1, z2, z3⟩ := y3 c
    obtain ⟨k, fr3, H3, o3, l3, q1, q2, q3⟩ := s2 c
    have hu : uw r H3 o3 l3 = (H, o, l ++ (sub t).2.1) := by rw [uw_eq hr1 q2, uw_lo hT]
    obtain ⟨i1, i2⟩ := mr_lp hn hX hH hS hop h4 hr1 hr2 H l hT 160 (sub t).2.1 (sub t).2.2 fr3 H3 o3 l3 y1 (by omega) hu q3
    refine ⟨fun hf2 => ?_, fun ht2 => ?_⟩
    · obtain ⟨k2, j⟩ := i1 hf2
      exact ⟨k2 + k, fun F => by rw [← Nat.add_assoc, q1]; exact j F⟩
    · obtain ⟨k2, fr4, H4, o4, l4, j1, j2, j3, j4⟩ := i2 ht2
      exact ⟨k2 + k, fr4, H4, o4, l4, fun F => by rw [← Nat.add_assoc, q1]; exact j1 F, by rw [j2, uw_lo hT], j3, j4⟩
  · rw [if_neg c]
    refine ⟨fun _ => ?_, fun z => by cases z⟩
    obtain ⟨k, j⟩ := s1 (Bool.eq_false_iff.mpr c)
    exact ⟨k, j⟩
