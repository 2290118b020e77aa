/-! the whole reader -/
theorem rd_Hm {n m m2 : Nat} {f : lx_T → lx_F} (h : rd_H n m f) (hm : m ≤ m2) : rd_H n m2 f := fun t hK => ⟨(h t hK).1, (h t hK).2.1, fun z => ⟨((h t hK).2.2 z).1, ((h t hK).2.2 z).2.1, fun d hd => ((h t hK).2.2 z).2.2 d (by omega)⟩⟩
theorem mr_Om : mr_O op_m 6 false := fun x h => by
  have e : x = -14 := of_decide_eq_true h
  subst e; decide
theorem mr_Op : mr_O op_p 5 false := fun x h => by
  unfold op_p at h
  simp only [Bool.or_eq_true, decide_eq_true_eq] at h
  rcases h with rfl | rfl <;> decide
theorem mr_Oa : mr_O op_a 2 true := fun x h => by
  have e : x = -8 := of_decide_eq_true h
  subst e; decide
theorem mr_Oo : mr_O op_o 1 true := fun x h => by
  have e : x = -7 := of_decide_eq_true h
  subst e; decide
theorem mr_b {n m : Nat} {k0 : Bool} {o : Nat} {s : (lx_T → lx_F) × (lx_T → lx_F) × (lx_T → lx_F)} {nx : Nat → lx_T} {ExO : mr_X} (hn : n ≤ 160) (hX : rd_Y n nx) (hm : 1 ≤ m) (hH : k0 = true → rd_H n m s.2.2 ∧ rd_H n m s.1 ∧ rd_H n (m + 3) s.2.1) (h0 : k0 = false → ¬ o < 5) (h1 : k0 = true → o < 5 ∧ mr_S n nx s.1 (o + 1) 7 8 false ExO ∧ mr_S n nx s.2.1 (o + 1) 3 4 true mr_Ex ∧ mr_S n nx s.2.2 (o + 1) 1 1 true (fun x H o l => (mr_Ex x H o l ∧ op_a x = false) ∧ op_o x = false)) :
    mr_S n nx (rd_O nx k0 s) o 7 8 false (fun _ _ _ _ => True) ∧ mr_S n nx (rd_N nx k0 s) o 3 4 true mr_Ex ∧ mr_S n nx (rd_E nx k0 s) o 1 1 true (fun x H o l => (mr_Ex x H o l ∧ op_a x = false) ∧ op_o x = false) := by
  obtain ⟨a1, a2, a3, a4, a5, a6⟩ := rd_bH hX hm hH
  have s1 : mr_S n nx (rd_O nx k0 s) o 7 8 false (fun _ _ _ _ => True) := mr_one hX (fun h => (hH h).1) h0 (fun h => ⟨(h1 h).1, (h1 h).2.1, (h1 h).2.2.2⟩)
  have s2 := mr_ch hn hX a1 s1 mr_Om (by decide) (show (6 : Int32) ≤ 7 by decide) (show (6 : Int32) < 8 by decide)
  have s3 : mr_S n nx (rd_S nx k0 s) o 5 5 false (fun x _ _ _ => (True ∧ op_m x = false) ∧ op_p x = false) := mr_ch hn hX a2 s2 mr_Op (by decide) (show (5 : Int32) ≤ 6 by decide) (show (5 : Int32) < 6 by decide)
  have s4 : mr_S n nx (rd_N nx k0 s) o 3 4 true mr_Ex := mr_not hX a3 (fun x H o l h => ⟨h.1.2, h.2⟩) s3 h0 (fun h => ⟨(h1 h).1, (h1 h).2.2.1⟩)
  have s5 := mr_ch hn hX a4 s4 mr_Oa (by decide) (show (2 : Int32) ≤ 3 by decide) (show (2 : Int32) < 4 by decide)
  exact ⟨s1, s4, mr_ch hn hX a5 s5 mr_Oo (by decide) (show (1 : Int32) ≤ 2 by decide) (show (1 : Int32) < 2 by decide)⟩
theorem rd_all {n : Nat} {nx : Nat → lx_T} (hn : n ≤ 160) (hX : rd_Y n nx) : ∀ k, k ≤ 5 → (rd_H n (1 + 5 * k) (rd nx k).1 ∧ rd_H n (4 + 5 * k) (rd nx k).2.1 ∧ rd_H n (6 + 5 * k) (rd nx k).2.2) ∧ mr_S n nx (rd nx k).1 (5 - k) 7 8 false (fun _ _ _ _ => True) ∧ mr_S n nx (rd nx k).2.1 (5 - k) 3 4 true mr_Ex ∧ mr_S n nx (rd nx k).2.2 (5 - k) 1 1 true (fun x H o l => (mr_Ex x H o l ∧ op_a x = false) ∧ op_o x = false) := by
  intro k
  induction k with
  | zero =>
    intro _
    obtain ⟨a1, a2, a3, a4, a5, a6⟩ := rd_bH (k0 := false) (s := (rd_z, rd_z, rd_z)) hX (Nat.le_refl 1) (fun h => by cases h)
    exact ⟨⟨a1, a4, a6⟩, mr_b (ExO := fun _ _ _ _ => True) hn hX (Nat.le_refl 1) (fun h => by cases h) (fun _ => by decide) (fun h => by cases h)⟩
  | succ k ih =>
    intro hk
    obtain ⟨⟨b1, b2, b3⟩, c1, c2, c3⟩ := ih (by omega)
    have hH : rd_H n (6 + 5 * k) (rd nx k).2.2 ∧ rd_H n (6 + 5 * k) (rd nx k).1 ∧ rd_H n (6 + 5 * k + 3) (rd nx k).2.1 := ⟨b3, rd_Hm b1 (by omega), rd_Hm b2 (by omega)⟩
    obtain ⟨a1, a2, a3, a4, a5, a6⟩ := rd_bH (k0 := true) (s := rd nx k) (m := 6 + 5 * k) hX (by omega) (fun _ => hH)
    have eo : 5 - (k + 1) + 1 = 5 - k := by omega
    have e1 : 1 + 5 * (k + 1) = 6 + 5 * k := by omega
    have e2 : 4 + 5 * (k + 1) = 6 + 5 * k + 3 := by omega
    have e3 : 6 + 5 * (k + 1) = 6 + 5 * k + 5 := by omega
    rw [e1, e2, e3]
    exact ⟨⟨a1, a4, a6⟩, mr_b (ExO := fun _ _ _ _ => True) hn hX (show 1 ≤ 6 + 5 * k by omega) (fun _ => hH) (fun h => by cases h) (fun _ => ⟨by omega, by rw [eo]; exact c1, by rw [eo]; exact c2, by rw [eo]; exact c3⟩)⟩
/-- E at the outermost, and what must stand behind it -/
theorem mr_top {n : Nat} {nx : Nat → lx_T} (hn : n ≤ 160) (hX : rd_Y n nx) (l : List Int32) (t : lx_T) (hK : lx_K n t) : (((rd nx 5).2.2 t).1 = true ∧ ((rd nx 5).2.2 t).2.2.1 = -18 → ∃ k, ∀ F, mr nx (F + k) true true [] 0 l t = some (true, l ++ ((rd nx 5).2.2 t).2.1, ((rd nx 5).2.2 t).2.2)) ∧ (¬ (((rd nx 5).2.2 t).1 = true ∧ ((rd nx 5).2.2 t).2.2.1 = -18) → ∃ k, ∀ F, ∃ l2, mr nx (F + k) true true [] 0 l t = some (false, l2, ((rd nx 5).2.2 t).2.2)) := by
  obtain ⟨s1, s2⟩ := (rd_all hn hX 5 (Nat.le_refl 5)).2.2.2 [] l t true trivial rfl hK
  refine ⟨fun h => ?_, fun h => ?_⟩
  · obtain ⟨k, fr2, H2, o2, l2, j1, j2, j3⟩ := s2 h.1
    refine ⟨1 + k, fun F => ?_⟩
    rw [show F + (1 + k) = (F + 1) + k by omega, j1, mr_e18 h.2, j2]
    rfl
  · by_cases c : ((rd nx 5).2.2 t).1 = true
    · obtain ⟨k, fr2, H2, o2, l2, j1, j2, j3⟩ := s2 c
      have h18 : ((rd nx 5).2.2 t).2.2.1 ≠ -18 := fun z => h ⟨c, z⟩
      refine ⟨1 + k, fun F => ⟨l2, ?_⟩⟩
      rw [show F + (1 + k) = (F + 1) + k by omega, j1]
      by_cases h17 : ((rd nx 5).2.2 t).2.2.1 = -17
      · exact mr_e17F h17 j2
      · exact mr_end j3.1.1 j3.1.2 j3.2 h17 h18
    · exact s1 (Bool.eq_false_iff.mpr c)
