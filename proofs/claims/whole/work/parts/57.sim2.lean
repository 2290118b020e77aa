/-! the machine reads one, not, E as the descent does -/
theorem mr_w1 {nx : Nat → lx_T} {F : Nat} {fr : Bool} {H l : List Int32} {o : Nat} {t : lx_T} (h : -6 ≤ t.1) : mr nx (F + 1) true fr H o l t = mr nx F false fr (uw 7 H o (l ++ [rd_cd t.1])).1 (uw 7 H o (l ++ [rd_cd t.1])).2.1 (uw 7 H o (l ++ [rd_cd t.1])).2.2 (nx t.2.2) := (if_pos rfl).trans (if_pos h)
theorem mr_w9 {nx : Nat → lx_T} {F : Nat} {fr : Bool} {H l : List Int32} {o : Nat} {t : lx_T} (h : t.1 = -9) (hf : fr = true) (ho : o < 5) : mr nx (F + 1) true fr H o l t = mr nx F true fr (13 :: H) (o + 1) l (nx t.2.2) := (if_pos rfl).trans ((if_neg (by rw [h]; decide)).trans ((if_pos h).trans (if_pos ⟨hf, ho⟩)))
theorem mr_w13 {nx : Nat → lx_T} {F : Nat} {fr : Bool} {H l : List Int32} {o : Nat} {t : lx_T} (h : t.1 = -13) (ho : o < 5) : mr nx (F + 1) true fr H o l t = mr nx F true false (19 :: H) (o + 1) l (nx t.2.2) := (if_pos rfl).trans ((if_neg (by rw [h]; decide)).trans ((if_neg (by rw [h]; decide)).trans ((if_pos h).trans (if_pos ho))))
theorem mr_w16 {nx : Nat → lx_T} {F : Nat} {fr : Bool} {H l : List Int32} {o : Nat} {t : lx_T} (h : t.1 = -16) (ho : o < 5) : mr nx (F + 1) true fr H o l t = mr nx F true true (0 :: H) (o + 1) l (nx t.2.2) := (if_pos rfl).trans ((if_neg (by rw [h]; decide)).trans ((if_neg (by rw [h]; decide)).trans ((if_neg (by rw [h]; decide)).trans ((if_pos h).trans (if_pos ho)))))
theorem mr_wF {nx : Nat → lx_T} {F : Nat} {fr : Bool} {H l : List Int32} {o : Nat} {t : lx_T} (h : ¬ -6 ≤ t.1) (h9 : t.1 = -9 → ¬ (fr = true ∧ o < 5)) (h13 : t.1 = -13 → ¬ o < 5) (h16 : t.1 = -16 → ¬ o < 5) : mr nx (F + 1) true fr H o l t = some (false, l, t) := by
  refine (if_pos rfl).trans ((if_neg h).trans ?_)
  by_cases c1 : t.1 = -9
  · rw [if_pos c1, if_neg (h9 c1)]
  · rw [if_neg c1]
    by_cases c2 : t.1 = -13
    · rw [if_pos c2, if_neg (h13 c2)]
    · rw [if_neg c2]
      by_cases c3 : t.1 = -16
      · rw [if_pos c3, if_neg (h16 c3)]
      · rw [if_neg c3]
theorem mr_e17 {nx : Nat → lx_T} {F : Nat} {fr : Bool} {H H2 l l2 : List Int32} {o o2 : Nat} {c : Int32} {t : lx_T} (h : t.1 = -17) (hu : uw 1 H o l = (c :: H2, o2, l2)) : mr nx (F + 1) false fr H o l t = mr nx F false fr (uw 7 H2 (o2 - 1) l2).1 (uw 7 H2 (o2 - 1) l2).2.1 (uw 7 H2 (o2 - 1) l2).2.2 (nx t.2.2) := by
  refine (if_neg (by decide)).trans ((if_neg (by rw [h]; decide)).trans ((if_pos h).trans ?_))
  rw [hu]
theorem mr_e17F {nx : Nat → lx_T} {F : Nat} {fr : Bool} {H l l2 : List Int32} {o o2 : Nat} {t : lx_T} (h : t.1 = -17) (hu : uw 1 H o l = ([], o2, l2)) : mr nx (F + 1) false fr H o l t = some (false, l, t) := by
  refine (if_neg (by decide)).trans ((if_neg (by rw [h]; decide)).trans ((if_pos h).trans ?_))
  rw [hu]
theorem mr_e18 {nx : Nat → lx_T} {F : Nat} {fr : Bool} {H l : List Int32} {o : Nat} {t : lx_T} (h : t.1 = -18) : mr nx (F + 1) false fr H o l t = some (decide ((uw 1 H o l).1 = []), (uw 1 H o l).2.2, t) := (if_neg (by decide)).trans (if_pos h)
/-- behind a whole E: no sign goes on -/
def mr_Ex (x : Int32) (H : List Int32) (o : Nat) (l : List Int32) : Prop := op_m x = false ∧ op_p x = false ∧ (x = -10 ∨ x = -11 → mr_4 (uw 5 H o l).1 = true)
theorem mr_end {nx : Nat → lx_T} {F : Nat} {fr : Bool} {H l : List Int32} {o : Nat} {t : lx_T} (hE : mr_Ex t.1 H o l) (ha : op_a t.1 = false) (ho : op_o t.1 = false) (h17 : t.1 ≠ -17) (h18 : t.1 ≠ -18) : mr nx (F + 1) false fr H o l t = some (false, l, t) := by
  by_cases c : t.1 = -10 ∨ t.1 = -11
  · exact mr_op4F c (hE.2.2 c)
  · have e : mr_op t.1 = false := by
      unfold mr_op
      rw [hE.1, hE.2.1, ha, ho, decide_eq_false (fun z => c (Or.inl z)), decide_eq_false (fun z => c (Or.inr z))]
      rfl
    exact (if_neg (by decide)).trans ((if_neg h18).trans ((if_neg h17).trans (if_neg (by rw [e]; decide))))
theorem mr_one {n m : Nat} {nx : Nat → lx_T} {k0 : Bool} {sE sO : lx_T → lx_F} {o : Nat} {ExO : mr_X} (hX : rd_Y n nx) (hE : k0 = true → rd_H n m sE) (h0 : k0 = false → ¬ o < 5) (h1 : k0 = true → o < 5 ∧ mr_S n nx sO (o + 1) 7 8 false ExO ∧ mr_S n nx sE (o + 1) 1 1 true (fun x H o l => (mr_Ex x H o l ∧ op_a x = false) ∧ op_o x = false)) : mr_S n nx (rd_one k0 sE sO nx) o 7 8 false (fun _ _ _ _ => True) := by
  intro H l t fr hT hP hK
  have hP2 : t.1 = -9 → fr = false := hP
  unfold rd_one
  by_cases c1 : -6 ≤ t.1
  · rw [if_pos c1]
    exact ⟨fun z => (by cases z), fun _ => ⟨1, fr, _, _, _, fun F => mr_w1 c1, uw_uw (Int32.le_refl _), trivial⟩⟩
  · rw [if_neg c1]
    by_cases c2 : (t.1 ≠ -13 ∧ t.1 ≠ -16) ∨ k0 = false
    · rw [if_pos c2]
      refine ⟨fun _ => ⟨1, fun F => ⟨l, ?_⟩⟩, fun z => (by cases z)⟩
      refine mr_wF c1 (fun z y => ?_) (fun z => ?_) (fun z => ?_)
      · have := hP2 z; rw [this] at y; exact absurd y.1 (by decide)
      · rcases c2 with q | q
        · exact absurd z q.1
        · exact h0 q
      · rcases c2 with q | q
        · exact absurd z q.2
        · exact h0 q
    · rw [if_neg c2]
      have hk : k0 = true := by cases k0 with
        | true => rfl
        | false => exact absurd (Or.inr rfl) c2
      obtain ⟨ho, sO1, sE1⟩ := h1 hk
      have hne : t.1 ≠ -22 := by
        intro e
        exact c2 (Or.inl (by rw [e]; decide))
      obtain ⟨x1, x2⟩ := hX t.2.2 hK.1.2.1
      by_cases c3 : t.1 = -16
      · rw [if_pos c3]
        obtain ⟨y1, y2, y3⟩ := hE hk _ x1
        obtain ⟨s1, s2⟩ := sE1 (0 :: H) l (nx t.2.2) true (by show s_rk 0 < 1; decide) (by show true = true; rfl) x1
        by_cases c4 : (sE (nx t.2.2)).1 = false ∨ (sE (nx t.2.2)).2.2.1 ≠ -17
        · rw [if_pos c4]
          refine ⟨fun _ => ?_, fun z => (by cases z)⟩
          by_cases c5 : (sE (nx t.2.2)).1 = false
          · obtain ⟨k, j⟩ := s1 c5
            exact ⟨k + 1, fun F => by rw [show F + (k + 1) = (F + k) + 1 by omega, mr_w16 c3 ho]; exact j F⟩
          · have c6 : (sE (nx t.2.2)).1 = true := by cases e : (sE (nx t.2.2)).1 with
              | true => rfl
              | false => exact absurd e c5
            obtain ⟨k, fr2, H2, o2, l2, j1, j2, j3⟩ := s2 c6
            have h17 : (sE (nx t.2.2)).2.2.1 ≠ -17 := c4.resolve_left c5
            by_cases h18 : (sE (nx t.2.2)).2.2.1 = -18
            · refine ⟨1 + k + 1, fun F => ⟨(uw 1 H2 o2 l2).2.2, ?_⟩⟩
              rw [show F + (1 + k + 1) = ((F + 1) + k) + 1 by omega, mr_w16 c3 ho, j1, mr_e18 h18, j2, uw_lo (show mr_tp 1 (0 :: H) from by show s_rk 0 < 1; decide)]
              rfl
            · refine ⟨1 + k + 1, fun F => ⟨l2, ?_⟩⟩
              rw [show F + (1 + k + 1) = ((F + 1) + k) + 1 by omega, mr_w16 c3 ho, j1, mr_end j3.1.1 j3.1.2 j3.2 h17 h18]
        · rw [if_neg c4]
          have c6 : (sE (nx t.2.2)).1 = true := by cases e : (sE (nx t.2.2)).1 with
            | true => rfl
            | false => exact absurd (Or.inl e) c4
          have h17 : (sE (nx t.2.2)).2.2.1 = -17 := by
            by_cases q : (sE (nx t.2.2)).2.2.1 = -17
            · exact q
            · exact absurd (Or.inr q) c4
          obtain ⟨k, fr2, H2, o2, l2, j1, j2, j3⟩ := s2 c6
          rw [uw_lo (show mr_tp 1 (0 :: H) from by show s_rk 0 < 1; decide)] at j2
          have fin : ∀ F, mr nx (F + (1 + k + 1)) true fr H o l t = mr nx F false fr2 (uw 7 H (o + 1 - 1) (l ++ (sE (nx t.2.2)).2.1)).1 (uw 7 H (o + 1 - 1) (l ++ (sE (nx t.2.2)).2.1)).2.1 (uw 7 H (o + 1 - 1) (l ++ (sE (nx t.2.2)).2.1)).2.2 (nx (sE (nx t.2.2)).2.2.2.2) := fun F => by
            rw [show F + (1 + k + 1) = ((F + 1) + k) + 1 by omega, mr_w16 c3 ho, j1, mr_e17 h17 j2]
          rw [Nat.add_sub_cancel] at fin
          exact ⟨fun z => (by cases z), fun _ => ⟨1 + k + 1, fr2, _, _, _, fin, uw_uw (Int32.le_refl _), trivial⟩⟩
      · rw [if_neg c3]
        have c13 : t.1 = -13 := by
          by_cases q : t.1 = -13
          · exact q
          · exact absurd (Or.inl ⟨q, c3⟩) c2
        obtain ⟨s1, s2⟩ := sO1 (19 :: H) l (nx t.2.2) false (by show s_rk 19 < 8; decide) (by show (nx t.2.2).1 = -9 → false = false; exact fun _ => rfl) x1
        by_cases hok : (sO (nx t.2.2)).1 = true
        · rw [if_pos hok]
          obtain ⟨k, fr2, H2, o2, l2, j1, j2, j3⟩ := s2 hok
          refine ⟨fun z => (by cases z), fun _ => ⟨k + 1, fr2, H2, o2, l2, fun F => ?_, ?_, trivial⟩⟩
          · rw [show F + (k + 1) = (F + k) + 1 by omega, mr_w13 c13 ho]; exact j1 F
          · rw [j2, uw_hi (by decide), if_pos (Or.inr rfl), Nat.add_sub_cancel, List.append_assoc]
        · rw [if_neg hok]
          refine ⟨fun _ => ?_, fun z => (by cases z)⟩
          obtain ⟨k, j⟩ := s1 (Bool.eq_false_iff.mpr hok)
          exact ⟨k + 1, fun F => by rw [show F + (k + 1) = (F + k) + 1 by omega, mr_w13 c13 ho]; exact j F⟩
theorem mr_not {n m : Nat} {nx : Nat → lx_T} {k0 : Bool} {sN sum : lx_T → lx_F} {o : Nat} {Ex2 : mr_X} (hX : rd_Y n nx) (hH : rd_H n m sum) (hE2 : ∀ x H o l, Ex2 x H o l → op_m x = false ∧ op_p x = false) (hS : mr_S n nx sum o 5 5 false Ex2) (h0 : k0 = false → ¬ o < 5) (h1 : k0 = true → o < 5 ∧ mr_S n nx sN (o + 1) 3 4 true mr_Ex) : mr_S n nx (rd_not k0 sN sum nx) o 3 4 true mr_Ex := by
  intro H l t fr hT hP hK
  have hfr : fr = true := hP
  unfold rd_not
  by_cases c1 : t.1 = -9
  · rw [if_pos c1]
    by_cases c2 : k0 = false
    · rw [if_pos c2]
      refine ⟨fun _ => ⟨1, fun F => ⟨l, ?_⟩⟩, fun z => (by cases z)⟩
      exact mr_wF (by rw [c1]; decide) (fun _ y => h0 c2 y.2) (fun z => by rw [c1] at z; exact absurd z (by decide)) (fun z => by rw [c1] at z; exact absurd z (by decide))
    · rw [if_neg c2]
      have hk : k0 = true := by cases k0 with
        | true => rfl
        | false => exact absurd rfl c2
      obtain ⟨ho, sN1⟩ := h1 hk
      obtain ⟨x1, x2⟩ := hX t.2.2 hK.1.2.1
      obtain ⟨s1, s2⟩ := sN1 (13 :: H) l (nx t.2.2) fr (by show s_rk 13 < 4; decide) hfr x1
      by_cases hok : (sN (nx t.2.2)).1 = true
      · rw [if_pos hok]
        obtain ⟨k, fr2, H2, o2, l2, j1, j2, j3⟩ := s2 hok
        refine ⟨fun z => (by cases z), fun _ => ⟨k + 1, fr2, H2, o2, l2, fun F => ?_, ?_, j3⟩⟩
        · rw [show F + (k + 1) = (F + k) + 1 by omega, mr_w9 c1 hfr ho]; exact j1 F
        · rw [j2, uw_hi (by decide), if_pos (Or.inl rfl), Nat.add_sub_cancel, List.append_assoc]
      · rw [if_neg hok]
        refine ⟨fun _ => ?_, fun z => (by cases z)⟩
        obtain ⟨k, j⟩ := s1 (Bool.eq_false_iff.mpr hok)
        exact ⟨k + 1, fun F => by rw [show F + (k + 1) = (F + k) + 1 by omega, mr_w9 c1 hfr ho]; exact j F⟩
  · rw [if_neg c1]
    obtain ⟨s1, s2⟩ := hS H l t fr (mr_tpm (by decide) hT) (by show t.1 = -9 → fr = false; exact fun z => absurd z c1) hK
    obtain ⟨y1, y2, y3⟩ := hH t hK
    by_cases c2 : (sum t).1 = false
    · rw [if_pos c2]
      exact ⟨fun _ => s1 c2, fun z => (by cases z)⟩
    · rw [if_neg c2]
      have hok : (sum t).1 = true := by cases e : (sum t).1 with
        | true => rfl
        | false => exact absurd e c2
      obtain ⟨k, fr2, H2, o2, l2, j1, j2, j3⟩ := s2 hok
      obtain ⟨em, ep⟩ := hE2 _ _ _ _ j3
      by_cases c3 : (sum t).2.2.1 ≠ -10 ∧ (sum t).2.2.1 ≠ -11
      · rw [if_pos c3]
        exact ⟨fun z => (by cases z), fun _ => ⟨k, fr2, H2, o2, l2, j1, uw_eq (by decide) j2, em, ep, fun z => z.elim (fun y => absurd y c3.1) (fun y => absurd y c3.2)⟩⟩
      · rw [if_neg c3]
        have c4 : (sum t).2.2.1 = -10 ∨ (sum t).2.2.1 = -11 := by
          by_cases q : (sum t).2.2.1 = -10
          · exact Or.inl q
          · by_cases q2 : (sum t).2.2.1 = -11
            · exact Or.inr q2
            · exact absurd ⟨q, q2⟩ c3
        have hT5 : mr_tp 5 H := mr_tpm (by decide) hT
        rw [uw_lo hT5] at j2
        have e4 : mr_4 (uw 5 H2 o2 l2).1 = false := by
          rw [j2]
          cases H with
          | nil => rfl
          | cons c H =>
            refine decide_eq_false (fun z => ?_)
            have : s_rk c < 4 := hT
            rw [z] at this
            exact absurd this (by decide)
        obtain ⟨x1, x2⟩ := hX (sum t).2.2.2.2 y1.1.2.1
        have ek : s_rk (rd_cd (sum t).2.2.1) = 4 := by rcases c4 with e | e <;> rw [e] <;> decide
        have e13 : ¬ (rd_cd (sum t).2.2.1 = 13 ∨ rd_cd (sum t).2.2.1 = 19) := by rcases c4 with e | e <;> rw [e] <;> decide
        obtain ⟨u1, u2⟩ := hS (rd_cd (sum t).2.2.1 :: H) (l ++ (sum t).2.1) (nx (sum t).2.2.2.2) false (by show s_rk _ < 5; rw [ek]; decide) (by show (nx (sum t).2.2.2.2).1 = -9 → false = false; exact fun _ => rfl) x1
        have st : ∀ F, mr nx ((F + 1) + k) true fr H o l t = mr nx F true false (rd_cd (sum t).2.2.1 :: H) o (l ++ (sum t).2.1) (nx (sum t).2.2.2.2) := fun F => by
          rw [j1, mr_op4 c4 e4, j2]
        by_cases hk2 : (sum (nx (sum t).2.2.2.2)).1 = true
        · rw [if_pos hk2]
          obtain ⟨k3, fr3, H3, o3, l3, v1, v2, v3⟩ := u2 hk2
          obtain ⟨em3, ep3⟩ := hE2 _ _ _ _ v3
          refine ⟨fun z => (by cases z), fun _ => ⟨k3 + 1 + k, fr3, H3, o3, l3, fun F => ?_, ?_, em3, ep3, fun _ => ?_⟩⟩
          · rw [show F + (k3 + 1 + k) = ((F + k3) + 1) + k by omega, st, v1]
          · rw [uw_eq (show (3 : Int32) ≤ 5 by decide) v2, uw_hi (by rw [ek]; decide), if_neg e13]
            simp only [List.append_assoc]
          · rw [v2, uw_lo (show mr_tp 5 (rd_cd (sum t).2.2.1 :: H) from by show s_rk _ < 5; rw [ek]; decide)]
            exact decide_eq_true ek
        · rw [if_neg hk2]
          refine ⟨fun _ => ?_, fun z => (by cases z)⟩
          obtain ⟨k3, j⟩ := u1 (Bool.eq_false_iff.mpr hk2)
          exact ⟨k3 + 1 + k, fun F => by rw [show F + (k3 + 1 + k) = ((F + k3) + 1) + k by omega, st]; exact j F⟩
