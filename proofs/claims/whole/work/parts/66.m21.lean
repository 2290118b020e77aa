/-! the reference: a whole expression read -/
def bI : Bool → Int32
  | true => 1
  | false => 0
theorem uw_o {r : Int32} : ∀ {H : List Int32} {o : Nat} {l : List Int32}, (uw r H o l).2.1 ≤ o := by
  intro H
  induction H with
  | nil => intro o l; exact Nat.le_refl _
  | cons c H ih =>
    intro o l
    by_cases q : s_rk c < r
    · rw [show uw r (c :: H) o l = (c :: H, o, l) from if_pos q]
      exact Nat.le_refl _
    · rw [uw_hi q]
      refine Nat.le_trans ih ?_
      split <;> omega
theorem uw_tp {r : Int32} : ∀ {H : List Int32} {o : Nat} {l : List Int32}, mr_tp r (uw r H o l).1 := by
  intro H
  induction H with
  | nil => intro o l; trivial
  | cons c H ih =>
    intro o l
    by_cases q : s_rk c < r
    · rw [show uw r (c :: H) o l = (c :: H, o, l) from if_pos q]
      exact q
    · rw [uw_hi q]
      exact ih
theorem s_rk1 {c : Int32} (h : s_rk c < 1) : c = 0 := by
  unfold s_rk at h
  by_cases c0 : c = 0
  · exact c0
  · exfalso
    rw [if_neg c0] at h
    repeat' split at h
    all_goals exact absurd h (by decide)
theorem oc_1 {c : Int32} {H : List Int32} (h : c = 0 ∨ c = 13 ∨ c = 19) : oc (c :: H) = oc H + 1 := by
  show oc H + _ = _
  rw [if_pos h]
theorem oc_0 {c : Int32} {H : List Int32} (h : ¬ (c = 0 ∨ c = 13 ∨ c = 19)) : oc (c :: H) = oc H := by
  show oc H + _ = _
  rw [if_neg h]; rfl
theorem mt_noy {x y : Int32} (h : (if x = -7 then (4 : Int32) else if x = -8 then 5 else if x = -9 then 6 else if x = -10 then 60 else if x = -11 then 61 else if x = -12 then 43 else if x = -13 then 45 else if x = -14 then 42 else if x = -16 then 40 else if x = -17 then 41 else if x = -18 then 59 else if x = -19 ∨ x = -20 ∨ x = -21 then 3 else if x = -22 then 0 else -1) = y) : y ≠ 1 ∧ y ≠ 2 := by
  by_cases d7 : x = -7
  · rw [if_pos d7] at h; subst h; decide
  rw [if_neg d7] at h
  by_cases d8 : x = -8
  · rw [if_pos d8] at h; subst h; decide
  rw [if_neg d8] at h
  by_cases d9 : x = -9
  · rw [if_pos d9] at h; subst h; decide
  rw [if_neg d9] at h
  by_cases d10 : x = -10
  · rw [if_pos d10] at h; subst h; decide
  rw [if_neg d10] at h
  by_cases d11 : x = -11
  · rw [if_pos d11] at h; subst h; decide
  rw [if_neg d11] at h
  by_cases d12 : x = -12
  · rw [if_pos d12] at h; subst h; decide
  rw [if_neg d12] at h
  by_cases d13 : x = -13
  · rw [if_pos d13] at h; subst h; decide
  rw [if_neg d13] at h
  by_cases d14 : x = -14
  · rw [if_pos d14] at h; subst h; decide
  rw [if_neg d14] at h
  by_cases d16 : x = -16
  · rw [if_pos d16] at h; subst h; decide
  rw [if_neg d16] at h
  by_cases d17 : x = -17
  · rw [if_pos d17] at h; subst h; decide
  rw [if_neg d17] at h
  by_cases d18 : x = -18
  · rw [if_pos d18] at h; subst h; decide
  rw [if_neg d18] at h
  by_cases e1 : x = -19 ∨ x = -20 ∨ x = -21
  · rw [if_pos e1] at h; subst h; decide
  rw [if_neg e1] at h
  by_cases e2 : x = -22
  · rw [if_pos e2] at h; subst h; decide
  rw [if_neg e2] at h
  subst h; decide
theorem mt_no2 {x : Int32} : ¬ (if x = -7 then (4 : Int32) else if x = -8 then 5 else if x = -9 then 6 else if x = -10 then 60 else if x = -11 then 61 else if x = -12 then 43 else if x = -13 then 45 else if x = -14 then 42 else if x = -16 then 40 else if x = -17 then 41 else if x = -18 then 59 else if x = -19 ∨ x = -20 ∨ x = -21 then 3 else if x = -22 then 0 else -1) = 2 := (mt_noy rfl).2
theorem mt_no1 {x : Int32} (h0 : ¬ 0 ≤ x) : ¬ mt_t x = 1 := by
  unfold mt_t
  rw [if_neg h0]
  by_cases c : -6 ≤ x
  · rw [if_pos c]; decide
  · rw [if_neg c]; exact (mt_noy rfl).1
theorem mt_q1 {x : Int32} (h : mt_t x = 1) : -6 ≤ x ∧ mt_v x = x ∧ rd_cd x = 100000 + x ∧ mt_n x := by
  have e : 0 ≤ x := by
    unfold mt_t at h
    by_cases c : 0 ≤ x
    · exact c
    · exact absurd h (mt_no1 c)
  have e6 : -6 ≤ x := Int32.le_trans (by decide) e
  exact ⟨e6, if_pos e, if_pos e, Or.inl e6⟩
theorem mt_q2 {x : Int32} (h : mt_t x = 2) : -6 ≤ x ∧ mt_v x = rd_cd x ∧ mt_n x := by
  unfold mt_t at h
  by_cases c : 0 ≤ x
  · rw [if_pos c] at h; exact absurd h (by decide)
  · rw [if_neg c] at h
    by_cases c6 : -6 ≤ x
    · refine ⟨c6, ?_, Or.inl c6⟩
      unfold mt_v rd_cd
      rw [if_neg c, if_neg c, if_pos c6, if_pos c6]
    · exfalso
      rw [if_neg c6] at h
      exact mt_no2 h
theorem mt_qn {x : Int32} (h1 : ¬ mt_t x = 1) (h2 : ¬ mt_t x = 2) : ¬ -6 ≤ x := by
  intro c6
  unfold mt_t at h1 h2
  by_cases c : 0 ≤ x
  · exact h1 (if_pos c)
  · exact h2 ((if_neg c).trans (if_pos c6))
theorem mt_qx {x y : Int32} (h : mt_t x = y) (h1 : y ≠ 1) (h2 : y ≠ 2) (h3 : y ≠ 3) (h4 : y ≠ 0) (h5 : y ≠ -1) : x = if y = 4 then -7 else if y = 5 then -8 else if y = 6 then -9 else if y = 60 then -10 else if y = 61 then -11 else if y = 43 then -12 else if y = 45 then -13 else if y = 42 then -14 else if y = 40 then -16 else if y = 41 then -17 else -18 := by
  unfold mt_t at h
  by_cases c1 : 0 ≤ x
  · rw [if_pos c1] at h; exact absurd h.symm h1
  rw [if_neg c1] at h
  by_cases c2 : -6 ≤ x
  · rw [if_pos c2] at h; exact absurd h.symm h2
  rw [if_neg c2] at h
  by_cases d1 : x = -7
  · subst d1; subst h; decide
  rw [if_neg d1] at h
  by_cases d2 : x = -8
  · subst d2; subst h; decide
  rw [if_neg d2] at h
  by_cases d3 : x = -9
  · subst d3; subst h; decide
  rw [if_neg d3] at h
  by_cases d4 : x = -10
  · subst d4; subst h; decide
  rw [if_neg d4] at h
  by_cases d5 : x = -11
  · subst d5; subst h; decide
  rw [if_neg d5] at h
  by_cases d6 : x = -12
  · subst d6; subst h; decide
  rw [if_neg d6] at h
  by_cases d7 : x = -13
  · subst d7; subst h; decide
  rw [if_neg d7] at h
  by_cases d8 : x = -14
  · subst d8; subst h; decide
  rw [if_neg d8] at h
  by_cases d9 : x = -16
  · subst d9; subst h; decide
  rw [if_neg d9] at h
  by_cases da : x = -17
  · subst da; subst h; decide
  rw [if_neg da] at h
  by_cases db : x = -18
  · subst db; subst h; decide
  rw [if_neg db] at h
  exfalso
  repeat' split at h
  all_goals first | exact absurd h.symm h3 | exact absurd h.symm h4 | exact absurd h.symm h5
theorem mt_q6 {x : Int32} (h : mt_t x = 6) : x = -9 := mt_qx h (by decide) (by decide) (by decide) (by decide) (by decide)
theorem mt_q45 {x : Int32} (h : mt_t x = 45) : x = -13 := mt_qx h (by decide) (by decide) (by decide) (by decide) (by decide)
theorem mt_q40 {x : Int32} (h : mt_t x = 40) : x = -16 := mt_qx h (by decide) (by decide) (by decide) (by decide) (by decide)
theorem mt_q59 {x : Int32} (h : mt_t x = 59) : x = -18 := mt_qx h (by decide) (by decide) (by decide) (by decide) (by decide)
theorem mt_q41 {x : Int32} (h : mt_t x = 41) : x = -17 := mt_qx h (by decide) (by decide) (by decide) (by decide) (by decide)
theorem mt_9 {x : Int32} (h : x = -9) : mt_t x = 6 := by subst h; decide
theorem mt_13 {x : Int32} (h : x = -13) : mt_t x = 45 := by subst h; decide
theorem mt_16 {x : Int32} (h : x = -16) : mt_t x = 40 := by subst h; decide
theorem mt_17 {x : Int32} (h : x = -17) : mt_t x = 41 := by subst h; decide
theorem mt_18 {x : Int32} (h : x = -18) : mt_t x = 59 := by subst h; decide
theorem mr_op_c {x : Int32} (h : mr_op x = true) : x = -7 ∨ x = -8 ∨ x = -10 ∨ x = -11 ∨ x = -12 ∨ x = -13 ∨ x = -14 := by
  unfold mr_op op_m op_p op_a op_o at h
  simp only [Bool.or_eq_true, decide_eq_true_eq] at h
  rcases h with ((((h | h | h) | h) | h) | h) | h <;> simp [h]
theorem mt_qs {x : Int32} (h : mr_op x = true) : sg_of (mt_t x) = rd_cd x ∧ rd_cd x ≠ -1 ∧ 0 < s_rk (rd_cd x) ∧ ¬ (rd_cd x = 0 ∨ rd_cd x = 13 ∨ rd_cd x = 19) ∧ x ≠ -22 ∧ x ≠ -17 ∧ x ≠ -18 := by
  rcases mr_op_c h with rfl | rfl | rfl | rfl | rfl | rfl | rfl <;> decide
theorem mt_qm {x : Int32} (h : ¬ mr_op x = true) : sg_of (mt_t x) = -1 := by
  have hne : ∀ y, mr_op y = true → x ≠ y := fun y hy e => h (by rw [e]; exact hy)
  have d1 := hne (-7) (by decide)
  have d2 := hne (-8) (by decide)
  have d3 := hne (-10) (by decide)
  have d4 := hne (-11) (by decide)
  have d5 := hne (-12) (by decide)
  have d6 := hne (-13) (by decide)
  have d7 := hne (-14) (by decide)
  unfold mt_t
  rw [if_neg d1, if_neg d2, if_neg d3, if_neg d4, if_neg d5, if_neg d6, if_neg d7]
  repeat' split
  all_goals decide
theorem mr_eoF {nx : Nat → lx_T} {F : Nat} {fr : Bool} {H l : List Int32} {o : Nat} {t : lx_T} (h : mr_op t.1 = true) (h4 : s_rk (rd_cd t.1) = 4 ∧ mr_4 (uw (ur_of (rd_cd t.1)) H o l).1 = true) : mr nx (F + 1) false fr H o l t = some (false, l, t) := (if_neg (by decide)).trans ((if_neg (mt_qs h).2.2.2.2.2.2).trans ((if_neg (mt_qs h).2.2.2.2.2.1).trans ((if_pos h).trans (if_pos h4))))
theorem mr_eo {nx : Nat → lx_T} {F : Nat} {fr : Bool} {H l H2 l2 : List Int32} {o o2 : Nat} {t : lx_T} (h : mr_op t.1 = true) (h4 : ¬ (s_rk (rd_cd t.1) = 4 ∧ mr_4 (uw (ur_of (rd_cd t.1)) H o l).1 = true)) (hu : uw (ur_of (rd_cd t.1)) H o l = (H2, o2, l2)) : mr nx (F + 1) false fr H o l t = mr nx F true (decide (rd_cd t.1 ≤ 12)) (rd_cd t.1 :: H2) o2 l2 (nx t.2.2) := by
  refine (if_neg (by decide)).trans ((if_neg (mt_qs h).2.2.2.2.2.2).trans ((if_neg (mt_qs h).2.2.2.2.2.1).trans ((if_pos h).trans ((if_neg h4).trans ?_))))
  rw [show mr_r t.1 = ur_of (rd_cd t.1) from rfl, hu]
theorem mr_eN {nx : Nat → lx_T} {F : Nat} {fr : Bool} {H l : List Int32} {o : Nat} {t : lx_T} (h17 : ¬ t.1 = -17) (h18 : ¬ t.1 = -18) (h : ¬ mr_op t.1 = true) : mr nx (F + 1) false fr H o l t = some (false, l, t) := (if_neg (by decide)).trans ((if_neg h18).trans ((if_neg h17).trans (if_neg h)))
abbrev mr_R : Type := Bool × List Int32 × lx_T
/-- from some time on it is R -/
def mr_cv (X : Nat → Option mr_R) (R : mr_R) : Prop := ∃ n, ∀ j, X (n + j) = some R
theorem mr_cv.st {X Y : Nat → Option mr_R} {R : mr_R} (h : ∀ F, X (F + 1) = Y F) (hY : mr_cv Y R) : mr_cv X R := by
  obtain ⟨n, hn⟩ := hY
  exact ⟨n + 1, fun j => by rw [show n + 1 + j = (n + j) + 1 by omega, h]; exact hn j⟩
theorem mr_cv.en {X : Nat → Option mr_R} {R : mr_R} (h : ∀ F, X (F + 1) = some R) : mr_cv X R := ⟨1, fun j => by rw [Nat.add_comm]; exact h j⟩
def am_qE (A : am_S) (nx : Nat → lx_T) (l : List Int32) (t : lx_T) (σ0 : am_M) : Option Value → am_M → Prop := fun r σ' => ∃ (R : mr_R) (l2 : List Int32), mr_cv (fun F => mr nx F true true [] 0 l t) R ∧ r = some (.int (bI R.1)) ∧ (R.1 = true → l2 = R.2.1) ∧ tk_R σ' R.2.2 ∧ iv_M (cd_S A l2) σ' ∧ σ'.2.1 65 35 = nI l2.length ∧ l2.length ≤ R.2.2.2.2 ∧ R.2.2.2.2 ≤ s_tp A ∧ fr_M σ0 σ' 
theorem ur_0 {x : Int32} (h : 0 < s_rk x) : 0 < ur_of x := by
  unfold ur_of
  split
  · decide
  · exact h
set_option maxHeartbeats 400000 in
set_option maxRecDepth 100000 in
theorem c_X7_eRead (G : am_G) (D : Nat) (A : am_S) (σ : am_M) (hA : wf_T A) (hW : wo_A A) (hnt : s_nt A < 6) (l : List Int32) (a : Nat) (hI : iv_M (cd_S A l) σ) (ha : σ.2.1 65 27 = nI a) (hout : σ.2.1 65 35 = nI l.length) (hn : a ≤ s_tp A) (hla : l.length ≤ a)  : am_Mt G (D + 3) mX7_eRead [.ref 65] σ 0 0 (am_qE A (lx_nx (A 74) (s_tp A)) l ((lx_nx (A 74) (s_tp A)) a) σ) := by
  have b6 := wt_6 hA
  have b160 := wt_160 hA
  refine am_of moX7_eRead (Nat.le_of_ble_eq_true rfl) ?_
  show am_Ev G mX7_eRead (am_R (D + 3) 0 0) 0 0 (am_qE A (lx_nx (A 74) (s_tp A)) l ((lx_nx (A 74) (s_tp A)) a) σ) 0 [(0, .ref 65)] [] σ 0 0
  have lp : ∀ (f : Nat) (w1 : Bool) (f1 : Bool) (a1 : Nat) (H1 : List Int32) (l1 : List Int32) (o1 : Nat) (σ1 : am_M), (∀ R, mr_cv (fun F => mr (lx_nx (A 74) (s_tp A)) F w1 f1 H1 o1 l1 ((lx_nx (A 74) (s_tp A)) a1)) R → mr_cv (fun F => mr (lx_nx (A 74) (s_tp A)) F true true [] 0 l ((lx_nx (A 74) (s_tp A)) a)) R) → (a1 ≤ s_tp A) → (σ1.2.1 65 27 = nI a1) → (o1 = oc H1) → (o1 ≤ 5) → (H1.length + l1.length ≤ a1) → (iv_M (cd_S A l1) σ1) → (hs_R σ1 H1 o1 l1) → (fr_M σ σ1) → s_tp A - a1 < f → am_Ev G mX7_eRead (am_R (D + 3) 0 0) 0 0 (am_qE A (lx_nx (A 74) (s_tp A)) l ((lx_nx (A 74) (s_tp A)) a) σ) 14 [(0, .ref 65), (1, .int (bI w1)), (2, .int (bI f1))] [] σ1 0 0 := by
    intro f
    induction f with
    | zero => intro w1 f1 a1 H1 l1 o1 σ1 hE hn1 ha1 ho1 ho5 hln hI1 hs1 hF1 hf; exact absurd hf (Nat.not_lt_zero _)
    | succ f ih =>
      intro w1 f1 a1 H1 l1 o1 σ1 hE hn1 ha1 ho1 ho5 hln hI1 hs1 hF1 hf
      refine ev_aload_n dX7_eRead_14 rfl rfl ?_
      refine ev_callV (as := []) (st := []) dX7_eRead_15 mfX7_next lk_X7_146 (ly_k hI1.ly 65 rfl) (by decide) rfl (c_X7_next G (D + 1) (cd_S A l1) σ1 (wt_cd hA) hI1 (wo_cd hW) a1 ha1 (by rw [cd_tp]; exact hn1)) rfl rfl (Nat.le_of_ble_eq_true rfl) (am_hR (by omega) (by decide)) ⟨Nat.le_refl _, Nat.le_refl _⟩ ?_
      rintro _ σ2 ⟨rfl, hI2, hF2, ht⟩
      rw [cd_74, cd_tp] at ht
      obtain ⟨T, hT⟩ : ∃ T, T = lx_nx (A 74) (s_tp A) a1 := ⟨_, rfl⟩
      rw [← hT] at ht hE
      have hK : lx_ok (s_tp A) T := by rw [hT]; exact lx_nx_ok hn1
      have hG : a1 ≤ T.2.1 := by rw [hT]; exact lx_nx_ge
      obtain ⟨k1, k2, k3, k4⟩ := hK
      have hs2 := hF2.hs hs1
      cases w1 with
      | true =>
        refine ev_iload_n dX7_eRead_18 rfl rfl ?_
        refine ev_if_eq (tgt := 150) dX7_eRead_19 (by decide) (fun c => absurd c (by decide)) (fun _ => ?_)
        refine ev_aload_n dX7_eRead_22 rfl rfl ?_
        refine ev_getI (v := mt_t T.1) dX7_eRead_23 fl_X7_113 (ly_k hI2.ly 65 rfl) ht.2.2.1 ?_
        refine ev_iconst (v := 1) dX7_eRead_26 (by decide) ?_
        refine ev_icmp_eq (tgt := 38) dX7_eRead_27 (by decide) (fun c1 => ?_) (fun c1 => ?_)
        · skip
          have hq := mt_q1 c1
          refine ev_aload_n dX7_eRead_38 rfl rfl ?_
          refine ev_aload_n dX7_eRead_39 rfl rfl ?_
          refine ev_getI (v := mt_t T.1) dX7_eRead_40 fl_X7_113 (ly_k hI2.ly 65 rfl) ht.2.2.1 ?_
          refine ev_iconst (v := 1) dX7_eRead_43 (by decide) ?_
          refine ev_icmp_ne (tgt := 57) dX7_eRead_44 (by decide) (fun c => absurd (c1) c) (fun _ => ?_)
          refine ev_ldc dX7_eRead_47 ct_X7_149 ?_
          refine ev_aload_n dX7_eRead_49 rfl rfl ?_
          refine ev_getI (v := mt_v T.1) dX7_eRead_50 fl_X7_116 (ly_k hI2.ly 65 rfl) (ht.2.2.2 hq.2.2.2) ?_
          refine ev_iadd (v := rd_cd T.1) dX7_eRead_53 (by rw [hq.2.1, hq.2.2.1]) ?_
          refine ev_goto (tgt := 61) dX7_eRead_54 (by decide) ?_
          refine ev_callV (as := [.int (rd_cd T.1)]) (st := []) dX7_eRead_61 mfX7_puts lk_X7_136 (ly_k hI2.ly 65 rfl) (by decide) rfl (c_X7_puts G (D + 2) A σ2 H1 l1 o1 hA hI2 hs2 hnt (by omega) (rd_cd T.1)) rfl rfl (Nat.le_of_ble_eq_true rfl) (am_hR (by omega) (by decide)) ⟨Nat.le_refl _, Nat.le_refl _⟩ ?_
          rintro _ σ12 ⟨rfl, hI12, hs12, hF12⟩
          refine ev_aload_n dX7_eRead_64 rfl rfl ?_
          refine ev_bipush (v := 7) dX7_eRead_65 (by decide) ?_
          refine ev_callV (as := [.int 7]) (st := []) dX7_eRead_67 mfX7_unwinds lk_X7_143 (ly_k hI12.ly 65 rfl) (by decide) rfl (c_X7_unwinds G (D + 1) A σ12 H1 (l1 ++ [rd_cd T.1]) o1 hA hI12 hs12 hnt (by first | omega | (rw [List.length_append, List.length_singleton]; omega)) ho1 7 (by decide)) rfl rfl (Nat.le_of_ble_eq_true rfl) (am_hR (by omega) (by decide)) ⟨Nat.le_refl _, Nat.le_refl _⟩ ?_
          rintro _ σ13 ⟨rfl, hI13, hs13, hF13⟩
          have hlen13 := uw_len (r := 7) (H := H1) (o := o1) (l := (l1 ++ [rd_cd T.1]))
          have hoc13 := uw_oc (by decide) (r := 7) (H := H1) (o := o1) (l := (l1 ++ [rd_cd T.1])) ho1
          have hol13 := uw_o (r := 7) (H := H1) (o := o1) (l := (l1 ++ [rd_cd T.1]))
          have htp13 := uw_tp (r := 7) (H := H1) (o := o1) (l := (l1 ++ [rd_cd T.1]))
          rcases hS13 : uw 7 H1 o1 (l1 ++ [rd_cd T.1]) with ⟨Hu13, ou13, lu13⟩
          rw [hS13] at hI13 hs13 hlen13 hoc13 hol13 htp13
          dsimp only at hI13 hs13 hlen13 hoc13 hol13 htp13
          rw [List.length_append, List.length_singleton] at hlen13
          refine ev_iconst (v := 0) dX7_eRead_70 (by decide) ?_
          refine ev_istore_n (lv' := [(0, .ref 65), (1, .int 0), (2, .int (bI f1))]) dX7_eRead_71 rfl (by decide) rfl ?_
          refine ev_goto (tgt := 14) dX7_eRead_72 (by decide) ?_
          have hlt := k4 (fun z => absurd (z ▸ hq.1) (by decide))
          exact ih false f1 T.2.2 Hu13 lu13 ou13 σ13 (fun R h => hE R (mr_cv.st (fun F => (mr_w1 hq.1).trans (by rw [hS13])) h)) k2 ((hF13.tk (hF12.tk ht)).1) hoc13 (by omega) (by omega) hI13 hs13 (((hF1.tr hF2.M).tr hF12.M).tr hF13.M) (by omega)
        · skip
          refine ev_aload_n dX7_eRead_30 rfl rfl ?_
          refine ev_getI (v := mt_t T.1) dX7_eRead_31 fl_X7_113 (ly_k hI2.ly 65 rfl) ht.2.2.1 ?_
          refine ev_iconst (v := 2) dX7_eRead_34 (by decide) ?_
          refine ev_icmp_ne (tgt := 75) dX7_eRead_35 (by decide) (fun c4 => ?_) (fun c4 => ?_)
          · skip
            refine ev_aload_n dX7_eRead_75 rfl rfl ?_
            refine ev_getI (v := mt_t T.1) dX7_eRead_76 fl_X7_113 (ly_k hI2.ly 65 rfl) ht.2.2.1 ?_
            refine ev_bipush (v := 6) dX7_eRead_79 (by decide) ?_
            refine ev_icmp_ne (tgt := 99) dX7_eRead_81 (by decide) (fun c5 => ?_) (fun c5 => ?_)
            · skip
              refine ev_aload_n dX7_eRead_99 rfl rfl ?_
              refine ev_getI (v := mt_t T.1) dX7_eRead_100 fl_X7_113 (ly_k hI2.ly 65 rfl) ht.2.2.1 ?_
              refine ev_bipush (v := 45) dX7_eRead_103 (by decide) ?_
              refine ev_icmp_ne (tgt := 124) dX7_eRead_105 (by decide) (fun c6 => ?_) (fun c6 => ?_)
              · skip
                refine ev_aload_n dX7_eRead_124 rfl rfl ?_
                refine ev_getI (v := mt_t T.1) dX7_eRead_125 fl_X7_113 (ly_k hI2.ly 65 rfl) ht.2.2.1 ?_
                refine ev_bipush (v := 40) dX7_eRead_128 (by decide) ?_
                refine ev_icmp_ne (tgt := 148) dX7_eRead_130 (by decide) (fun c7 => ?_) (fun c7 => ?_)
                · skip
                  refine ev_iconst (v := 0) dX7_eRead_148 (by decide) ?_
                  refine ev_retz dX7_eRead_149 rfl (Or.inl rfl) (Nat.zero_le _) (Nat.zero_le _) ?_
                  exact ⟨(false, l1, T), l1, hE _ (mr_cv.en (fun F => mr_wF (mt_qn c1 c4) (fun z => absurd (mt_9 z) c5) (fun z => absurd (mt_13 z) c6) (fun z => absurd (mt_16 z) c7))), rfl, fun z => (by cases z), ht, hI2, hs2.2.2.2, (show l1.length ≤ T.2.2 by omega), k2, (hF1.tr hF2.M)⟩
                · skip
                  have hq := mt_q40 c7
                  refine ev_aload_n dX7_eRead_133 rfl rfl ?_
                  refine ev_iconst (v := 0) dX7_eRead_134 (by decide) ?_
                  refine ev_callV (as := [.int 0]) (st := []) dX7_eRead_135 mfX7_opensOne lk_X7_150 (ly_k hI2.ly 65 rfl) (by decide) rfl (c_X7_opensOne G (D + 1) A σ2 H1 l1 o1 hA hI2 hs2 hnt (by omega) ho5 0) rfl rfl (Nat.le_of_ble_eq_true rfl) (am_hR (by omega) (by decide)) ⟨Nat.le_refl _, Nat.le_refl _⟩ ?_
                  rintro _ σ18 (⟨hoo, rfl, hI18, hs18, hF18⟩ | ⟨hoo, rfl, hI18, hs18, hF18⟩)
                  · skip
                    refine ev_if_ne (tgt := 143) dX7_eRead_138 (by decide) (fun _ => ?_) (fun c => absurd c (by decide))
                    refine ev_iconst (v := 1) dX7_eRead_143 (by decide) ?_
                    refine ev_istore_n (lv' := [(0, .ref 65), (1, .int (bI true)), (2, .int 1)]) dX7_eRead_144 rfl (by decide) rfl ?_
                    refine ev_goto (tgt := 14) dX7_eRead_145 (by decide) ?_
                    have hlt := k4 (by rw [hq]; decide)
                    exact ih true true T.2.2 (0 :: H1) l1 (o1 + 1) σ18 (fun R h => hE R (mr_cv.st (fun F => mr_w16 hq hoo) h)) k2 ((hF18.tk ht).1) (((oc_1 (by decide)).trans (by rw [ho1])).symm) (by omega) (by rw [List.length_cons]; omega) hI18 hs18 ((hF1.tr hF2.M).tr hF18.M) (by omega)
                  · skip
                    refine ev_if_ne (tgt := 143) dX7_eRead_138 (by decide) (fun c => absurd (by decide) c) (fun _ => ?_)
                    refine ev_iconst (v := 0) dX7_eRead_141 (by decide) ?_
                    refine ev_retz dX7_eRead_142 rfl (Or.inl rfl) (Nat.zero_le _) (Nat.zero_le _) ?_
                    exact ⟨(false, l1, T), l1, hE _ (mr_cv.en (fun F => mr_wF (by rw [hq]; decide) (fun z => absurd (hq.symm.trans z) (by decide)) (fun z => absurd (hq.symm.trans z) (by decide)) (fun _ => hoo))), rfl, fun z => (by cases z), (hF18.tk ht), hI18, hs18.2.2.2, (show l1.length ≤ T.2.2 by omega), k2, ((hF1.tr hF2.M).tr hF18.M)⟩
              · skip
                have hq := mt_q45 c6
                refine ev_aload_n dX7_eRead_108 rfl rfl ?_
                refine ev_bipush (v := 19) dX7_eRead_109 (by decide) ?_
                refine ev_callV (as := [.int 19]) (st := []) dX7_eRead_111 mfX7_opensOne lk_X7_150 (ly_k hI2.ly 65 rfl) (by decide) rfl (c_X7_opensOne G (D + 1) A σ2 H1 l1 o1 hA hI2 hs2 hnt (by omega) ho5 19) rfl rfl (Nat.le_of_ble_eq_true rfl) (am_hR (by omega) (by decide)) ⟨Nat.le_refl _, Nat.le_refl _⟩ ?_
                rintro _ σ19 (⟨hoo, rfl, hI19, hs19, hF19⟩ | ⟨hoo, rfl, hI19, hs19, hF19⟩)
                · skip
                  refine ev_if_ne (tgt := 119) dX7_eRead_114 (by decide) (fun _ => ?_) (fun c => absurd c (by decide))
                  refine ev_iconst (v := 0) dX7_eRead_119 (by decide) ?_
                  refine ev_istore_n (lv' := [(0, .ref 65), (1, .int (bI true)), (2, .int 0)]) dX7_eRead_120 rfl (by decide) rfl ?_
                  refine ev_goto (tgt := 14) dX7_eRead_121 (by decide) ?_
                  have hlt := k4 (by rw [hq]; decide)
                  exact ih true false T.2.2 (19 :: H1) l1 (o1 + 1) σ19 (fun R h => hE R (mr_cv.st (fun F => mr_w13 hq hoo) h)) k2 ((hF19.tk ht).1) (((oc_1 (by decide)).trans (by rw [ho1])).symm) (by omega) (by rw [List.length_cons]; omega) hI19 hs19 ((hF1.tr hF2.M).tr hF19.M) (by omega)
                · skip
                  refine ev_if_ne (tgt := 119) dX7_eRead_114 (by decide) (fun c => absurd (by decide) c) (fun _ => ?_)
                  refine ev_iconst (v := 0) dX7_eRead_117 (by decide) ?_
                  refine ev_retz dX7_eRead_118 rfl (Or.inl rfl) (Nat.zero_le _) (Nat.zero_le _) ?_
                  exact ⟨(false, l1, T), l1, hE _ (mr_cv.en (fun F => mr_wF (by rw [hq]; decide) (fun z => absurd (hq.symm.trans z) (by decide)) (fun _ => hoo) (fun z => absurd (hq.symm.trans z) (by decide)))), rfl, fun z => (by cases z), (hF19.tk ht), hI19, hs19.2.2.2, (show l1.length ≤ T.2.2 by omega), k2, ((hF1.tr hF2.M).tr hF19.M)⟩
            · skip
              have hq := mt_q6 c5
              cases f1 with
              | true =>
                refine ev_iload_n dX7_eRead_84 rfl rfl ?_
                refine ev_if_eq (tgt := 99) dX7_eRead_85 (by decide) (fun c => absurd c (by decide)) (fun _ => ?_)
                refine ev_aload_n dX7_eRead_88 rfl rfl ?_
                refine ev_bipush (v := 13) dX7_eRead_89 (by decide) ?_
                refine ev_callV (as := [.int 13]) (st := []) dX7_eRead_91 mfX7_opensOne lk_X7_150 (ly_k hI2.ly 65 rfl) (by decide) rfl (c_X7_opensOne G (D + 1) A σ2 H1 l1 o1 hA hI2 hs2 hnt (by omega) ho5 13) rfl rfl (Nat.le_of_ble_eq_true rfl) (am_hR (by omega) (by decide)) ⟨Nat.le_refl _, Nat.le_refl _⟩ ?_
                rintro _ σ20 (⟨hoo, rfl, hI20, hs20, hF20⟩ | ⟨hoo, rfl, hI20, hs20, hF20⟩)
                · skip
                  refine ev_if_ne (tgt := 14) dX7_eRead_94 (by decide) (fun _ => ?_) (fun c => absurd c (by decide))
                  have hlt := k4 (by rw [hq]; decide)
                  exact ih true true T.2.2 (13 :: H1) l1 (o1 + 1) σ20 (fun R h => hE R (mr_cv.st (fun F => mr_w9 hq rfl hoo) h)) k2 ((hF20.tk ht).1) (((oc_1 (by decide)).trans (by rw [ho1])).symm) (by omega) (by rw [List.length_cons]; omega) hI20 hs20 ((hF1.tr hF2.M).tr hF20.M) (by omega)
                · skip
                  refine ev_if_ne (tgt := 14) dX7_eRead_94 (by decide) (fun c => absurd (by decide) c) (fun _ => ?_)
                  refine ev_iconst (v := 0) dX7_eRead_97 (by decide) ?_
                  refine ev_retz dX7_eRead_98 rfl (Or.inl rfl) (Nat.zero_le _) (Nat.zero_le _) ?_
                  exact ⟨(false, l1, T), l1, hE _ (mr_cv.en (fun F => mr_wF (by rw [hq]; decide) (fun _ z => hoo z.2) (fun z => absurd (hq.symm.trans z) (by decide)) (fun z => absurd (hq.symm.trans z) (by decide)))), rfl, fun z => (by cases z), (hF20.tk ht), hI20, hs20.2.2.2, (show l1.length ≤ T.2.2 by omega), k2, ((hF1.tr hF2.M).tr hF20.M)⟩
              | false =>
                refine ev_iload_n dX7_eRead_84 rfl rfl ?_
                refine ev_if_eq (tgt := 99) dX7_eRead_85 (by decide) (fun _ => ?_) (fun c => absurd (by decide) c)
                refine ev_aload_n dX7_eRead_99 rfl rfl ?_
                refine ev_getI (v := mt_t T.1) dX7_eRead_100 fl_X7_113 (ly_k hI2.ly 65 rfl) ht.2.2.1 ?_
                refine ev_bipush (v := 45) dX7_eRead_103 (by decide) ?_
                refine ev_icmp_ne (tgt := 124) dX7_eRead_105 (by decide) (fun _ => ?_) (fun c => absurd c (by rw [c5]; decide))
                refine ev_aload_n dX7_eRead_124 rfl rfl ?_
                refine ev_getI (v := mt_t T.1) dX7_eRead_125 fl_X7_113 (ly_k hI2.ly 65 rfl) ht.2.2.1 ?_
                refine ev_bipush (v := 40) dX7_eRead_128 (by decide) ?_
                refine ev_icmp_ne (tgt := 148) dX7_eRead_130 (by decide) (fun _ => ?_) (fun c => absurd c (by rw [c5]; decide))
                refine ev_iconst (v := 0) dX7_eRead_148 (by decide) ?_
                refine ev_retz dX7_eRead_149 rfl (Or.inl rfl) (Nat.zero_le _) (Nat.zero_le _) ?_
                exact ⟨(false, l1, T), l1, hE _ (mr_cv.en (fun F => mr_wF (by rw [hq]; decide) (fun _ z => absurd z.1 (by decide)) (fun z => absurd (hq.symm.trans z) (by decide)) (fun z => absurd (hq.symm.trans z) (by decide)))), rfl, fun z => (by cases z), ht, hI2, hs2.2.2.2, (show l1.length ≤ T.2.2 by omega), k2, (hF1.tr hF2.M)⟩
          · skip
            have hq := mt_q2 c4
            refine ev_aload_n dX7_eRead_38 rfl rfl ?_
            refine ev_aload_n dX7_eRead_39 rfl rfl ?_
            refine ev_getI (v := mt_t T.1) dX7_eRead_40 fl_X7_113 (ly_k hI2.ly 65 rfl) ht.2.2.1 ?_
            refine ev_iconst (v := 1) dX7_eRead_43 (by decide) ?_
            refine ev_icmp_ne (tgt := 57) dX7_eRead_44 (by decide) (fun _ => ?_) (fun c => absurd c (by rw [c4]; decide))
            refine ev_aload_n dX7_eRead_57 rfl rfl ?_
            refine ev_getI (v := rd_cd T.1) dX7_eRead_58 fl_X7_116 (ly_k hI2.ly 65 rfl) ((ht.2.2.2 hq.2.2).trans hq.2.1) ?_
            refine ev_callV (as := [.int (rd_cd T.1)]) (st := []) dX7_eRead_61 mfX7_puts lk_X7_136 (ly_k hI2.ly 65 rfl) (by decide) rfl (c_X7_puts G (D + 2) A σ2 H1 l1 o1 hA hI2 hs2 hnt (by omega) (rd_cd T.1)) rfl rfl (Nat.le_of_ble_eq_true rfl) (am_hR (by omega) (by decide)) ⟨Nat.le_refl _, Nat.le_refl _⟩ ?_
            rintro _ σ21 ⟨rfl, hI21, hs21, hF21⟩
            refine ev_aload_n dX7_eRead_64 rfl rfl ?_
            refine ev_bipush (v := 7) dX7_eRead_65 (by decide) ?_
            refine ev_callV (as := [.int 7]) (st := []) dX7_eRead_67 mfX7_unwinds lk_X7_143 (ly_k hI21.ly 65 rfl) (by decide) rfl (c_X7_unwinds G (D + 1) A σ21 H1 (l1 ++ [rd_cd T.1]) o1 hA hI21 hs21 hnt (by first | omega | (rw [List.length_append, List.length_singleton]; omega)) ho1 7 (by decide)) rfl rfl (Nat.le_of_ble_eq_true rfl) (am_hR (by omega) (by decide)) ⟨Nat.le_refl _, Nat.le_refl _⟩ ?_
            rintro _ σ22 ⟨rfl, hI22, hs22, hF22⟩
            have hlen22 := uw_len (r := 7) (H := H1) (o := o1) (l := (l1 ++ [rd_cd T.1]))
            have hoc22 := uw_oc (by decide) (r := 7) (H := H1) (o := o1) (l := (l1 ++ [rd_cd T.1])) ho1
            have hol22 := uw_o (r := 7) (H := H1) (o := o1) (l := (l1 ++ [rd_cd T.1]))
            have htp22 := uw_tp (r := 7) (H := H1) (o := o1) (l := (l1 ++ [rd_cd T.1]))
            rcases hS22 : uw 7 H1 o1 (l1 ++ [rd_cd T.1]) with ⟨Hu22, ou22, lu22⟩
            rw [hS22] at hI22 hs22 hlen22 hoc22 hol22 htp22
            dsimp only at hI22 hs22 hlen22 hoc22 hol22 htp22
            rw [List.length_append, List.length_singleton] at hlen22
            refine ev_iconst (v := 0) dX7_eRead_70 (by decide) ?_
            refine ev_istore_n (lv' := [(0, .ref 65), (1, .int 0), (2, .int (bI f1))]) dX7_eRead_71 rfl (by decide) rfl ?_
            refine ev_goto (tgt := 14) dX7_eRead_72 (by decide) ?_
            have hlt := k4 (fun z => absurd (z ▸ hq.1) (by decide))
            exact ih false f1 T.2.2 Hu22 lu22 ou22 σ22 (fun R h => hE R (mr_cv.st (fun F => (mr_w1 hq.1).trans (by rw [hS22])) h)) k2 ((hF22.tk (hF21.tk ht)).1) hoc22 (by omega) (by omega) hI22 hs22 (((hF1.tr hF2.M).tr hF21.M).tr hF22.M) (by omega)
      | false =>
        refine ev_iload_n dX7_eRead_18 rfl rfl ?_
        refine ev_if_eq (tgt := 150) dX7_eRead_19 (by decide) (fun _ => ?_) (fun c => absurd (by decide) c)
        refine ev_aload_n dX7_eRead_150 rfl rfl ?_
        refine ev_getI (v := mt_t T.1) dX7_eRead_151 fl_X7_113 (ly_k hI2.ly 65 rfl) ht.2.2.1 ?_
        refine ev_bipush (v := 59) dX7_eRead_154 (by decide) ?_
        refine ev_icmp_ne (tgt := 177) dX7_eRead_156 (by decide) (fun c13 => ?_) (fun c13 => ?_)
        · skip
          refine ev_aload_n dX7_eRead_177 rfl rfl ?_
          refine ev_getI (v := mt_t T.1) dX7_eRead_178 fl_X7_113 (ly_k hI2.ly 65 rfl) ht.2.2.1 ?_
          refine ev_bipush (v := 41) dX7_eRead_181 (by decide) ?_
          refine ev_icmp_ne (tgt := 229) dX7_eRead_183 (by decide) (fun c14 => ?_) (fun c14 => ?_)
          · skip
            refine ev_aload_n dX7_eRead_229 rfl rfl ?_
            refine ev_callV (as := []) (st := []) dX7_eRead_230 mfX7_signOf lk_X7_153 (ly_k hI2.ly 65 rfl) (by decide) rfl (c_X7_signOf G (D + 2) A σ2 (cd_S A l1) hI2 (mt_t T.1) ht.2.2.1) rfl rfl (Nat.le_of_ble_eq_true rfl) (am_hR (by omega) (by decide)) ⟨Nat.le_refl _, Nat.le_refl _⟩ ?_
            rintro _ _ ⟨rfl, rfl⟩
            by_cases hm : mr_op T.1 = true
            · have hq := mt_qs hm
              rw [hq.1]
              refine ev_istore_n (lv' := [(0, .ref 65), (1, .int (bI false)), (2, .int (bI f1)), (3, .int (rd_cd T.1))]) dX7_eRead_233 rfl (by decide) rfl ?_
              refine ev_iload_n dX7_eRead_234 rfl rfl ?_
              refine ev_iconst (v := (-1)) dX7_eRead_235 (by decide) ?_
              refine ev_icmp_eq (tgt := 247) dX7_eRead_236 (by decide) (fun c => absurd c (hq.2.1)) (fun _ => ?_)
              refine ev_aload_n dX7_eRead_239 rfl rfl ?_
              refine ev_iload_n dX7_eRead_240 rfl rfl ?_
              refine ev_callV (as := [.int (rd_cd T.1)]) (st := []) dX7_eRead_241 mfX7_between lk_X7_156 (ly_k hI2.ly 65 rfl) (by decide) rfl (c_X7_between G D A σ2 H1 l1 o1 hA hI2 hs2 hnt (by omega) ho1 (rd_cd T.1) hq.2.2.1) rfl rfl (Nat.le_of_ble_eq_true rfl) (am_hR (by omega) (by decide)) ⟨Nat.le_refl _, Nat.le_refl _⟩ ?_
              rintro _ σ25 (⟨hb, rfl, hI25, hs25, hF25⟩ | ⟨hb, rfl, hI25, hs25, hF25⟩)
              · skip
                have hb0 := hb
                have hlen25 := uw_len (r := (ur_of (rd_cd T.1))) (H := H1) (o := o1) (l := l1)
                have hoc25 := uw_oc (ur_0 hq.2.2.1) (r := (ur_of (rd_cd T.1))) (H := H1) (o := o1) (l := l1) ho1
                have hol25 := uw_o (r := (ur_of (rd_cd T.1))) (H := H1) (o := o1) (l := l1)
                have htp25 := uw_tp (r := (ur_of (rd_cd T.1))) (H := H1) (o := o1) (l := l1)
                rcases hS25 : uw (ur_of (rd_cd T.1)) H1 o1 l1 with ⟨Hu25, ou25, lu25⟩
                rw [hS25] at hI25 hs25 hlen25 hoc25 hol25 htp25
                dsimp only at hI25 hs25 hlen25 hoc25 hol25 htp25
                refine ev_if_ne (tgt := 249) dX7_eRead_244 (by decide) (fun c => absurd (by decide) c) (fun _ => ?_)
                refine ev_iconst (v := 0) dX7_eRead_247 (by decide) ?_
                refine ev_retz dX7_eRead_248 rfl (Or.inl rfl) (Nat.zero_le _) (Nat.zero_le _) ?_
                exact ⟨(false, l1, T), lu25, hE _ (mr_cv.en (fun F => mr_eoF hm hb0)), rfl, fun z => (by cases z), (hF25.tk ht), hI25, hs25.2.2.2, (show lu25.length ≤ T.2.2 by omega), k2, ((hF1.tr hF2.M).tr hF25.M)⟩
              · skip
                have hb0 := hb
                have hlen25 := uw_len (r := (ur_of (rd_cd T.1))) (H := H1) (o := o1) (l := l1)
                have hoc25 := uw_oc (ur_0 hq.2.2.1) (r := (ur_of (rd_cd T.1))) (H := H1) (o := o1) (l := l1) ho1
                have hol25 := uw_o (r := (ur_of (rd_cd T.1))) (H := H1) (o := o1) (l := l1)
                have htp25 := uw_tp (r := (ur_of (rd_cd T.1))) (H := H1) (o := o1) (l := l1)
                rcases hS25 : uw (ur_of (rd_cd T.1)) H1 o1 l1 with ⟨Hu25, ou25, lu25⟩
                rw [hS25] at hI25 hs25 hlen25 hoc25 hol25 htp25
                dsimp only at hI25 hs25 hlen25 hoc25 hol25 htp25
                refine ev_if_ne (tgt := 249) dX7_eRead_244 (by decide) (fun _ => ?_) (fun c => absurd c (by decide))
                refine ev_iconst (v := 1) dX7_eRead_249 (by decide) ?_
                refine ev_istore_n (lv' := [(0, .ref 65), (1, .int 1), (2, .int (bI f1)), (3, .int (rd_cd T.1))]) dX7_eRead_250 rfl (by decide) rfl ?_
                refine ev_iload_n dX7_eRead_251 rfl rfl ?_
                refine ev_bipush (v := 12) dX7_eRead_252 (by decide) ?_
                refine ev_icmp_gt (tgt := 261) dX7_eRead_254 (by decide) (fun c16 => ?_) (fun c16 => ?_)
                · skip
                  refine ev_iconst (v := 0) dX7_eRead_261 (by decide) ?_
                  refine ev_istore_n (lv' := [(0, .ref 65), (1, .int 1), (2, .int 0), (3, .int (rd_cd T.1))]) dX7_eRead_262 rfl (by decide) rfl ?_
                  refine ev_goto (tgt := 14) dX7_eRead_263 (by decide) ?_
                  have hlt := k4 (hq.2.2.2.2.1)
                  refine ev_keep (lv' := [(0, .ref 65), (1, .int 1), (2, .int 0)]) [0, 1, 2] rfl ?_
                  exact ih true false T.2.2 (rd_cd T.1 :: Hu25) lu25 ou25 σ25 (fun R h => hE R (mr_cv.st (fun F => (mr_eo hm hb0 hS25).trans (by rw [decide_eq_false (Int32.not_le.mpr c16)])) h)) k2 ((hF25.tk ht).1) (hoc25.trans (oc_0 hq.2.2.2.1).symm) (by omega) (by rw [List.length_cons]; omega) hI25 hs25 ((hF1.tr hF2.M).tr hF25.M) (by omega)
                · skip
                  refine ev_iconst (v := 1) dX7_eRead_257 (by decide) ?_
                  refine ev_goto (tgt := 262) dX7_eRead_258 (by decide) ?_
                  refine ev_istore_n (lv' := [(0, .ref 65), (1, .int 1), (2, .int 1), (3, .int (rd_cd T.1))]) dX7_eRead_262 rfl (by decide) rfl ?_
                  refine ev_goto (tgt := 14) dX7_eRead_263 (by decide) ?_
                  have hlt := k4 (hq.2.2.2.2.1)
                  refine ev_keep (lv' := [(0, .ref 65), (1, .int 1), (2, .int 1)]) [0, 1, 2] rfl ?_
                  exact ih true true T.2.2 (rd_cd T.1 :: Hu25) lu25 ou25 σ25 (fun R h => hE R (mr_cv.st (fun F => (mr_eo hm hb0 hS25).trans (by rw [decide_eq_true (Int32.not_lt.mp c16)])) h)) k2 ((hF25.tk ht).1) (hoc25.trans (oc_0 hq.2.2.2.1).symm) (by omega) (by rw [List.length_cons]; omega) hI25 hs25 ((hF1.tr hF2.M).tr hF25.M) (by omega)
            · have hq := mt_qm hm
              rw [hq]
              refine ev_istore_n (lv' := [(0, .ref 65), (1, .int (bI false)), (2, .int (bI f1)), (3, .int (-1))]) dX7_eRead_233 rfl (by decide) rfl ?_
              refine ev_iload_n dX7_eRead_234 rfl rfl ?_
              refine ev_iconst (v := (-1)) dX7_eRead_235 (by decide) ?_
              refine ev_icmp_eq (tgt := 247) dX7_eRead_236 (by decide) (fun _ => ?_) (fun c => absurd (by decide) c)
              refine ev_iconst (v := 0) dX7_eRead_247 (by decide) ?_
              refine ev_retz dX7_eRead_248 rfl (Or.inl rfl) (Nat.zero_le _) (Nat.zero_le _) ?_
              exact ⟨(false, l1, T), l1, hE _ (mr_cv.en (fun F => mr_eN (fun z => absurd (mt_17 z) c14) (fun z => absurd (mt_18 z) c13) hm)), rfl, fun z => (by cases z), ht, hI2, hs2.2.2.2, (show l1.length ≤ T.2.2 by omega), k2, (hF1.tr hF2.M)⟩
          · skip
            have hq := mt_q41 c14
            refine ev_aload_n dX7_eRead_186 rfl rfl ?_
            refine ev_iconst (v := 1) dX7_eRead_187 (by decide) ?_
            refine ev_callV (as := [.int 1]) (st := []) dX7_eRead_188 mfX7_unwinds lk_X7_143 (ly_k hI2.ly 65 rfl) (by decide) rfl (c_X7_unwinds G (D + 1) A σ2 H1 l1 o1 hA hI2 hs2 hnt (by first | omega | (rw [List.length_append, List.length_singleton]; omega)) ho1 1 (by decide)) rfl rfl (Nat.le_of_ble_eq_true rfl) (am_hR (by omega) (by decide)) ⟨Nat.le_refl _, Nat.le_refl _⟩ ?_
            rintro _ σ27 ⟨rfl, hI27, hs27, hF27⟩
            have hlen27 := uw_len (r := 1) (H := H1) (o := o1) (l := l1)
            have hoc27 := uw_oc (by decide) (r := 1) (H := H1) (o := o1) (l := l1) ho1
            have hol27 := uw_o (r := 1) (H := H1) (o := o1) (l := l1)
            have htp27 := uw_tp (r := 1) (H := H1) (o := o1) (l := l1)
            rcases hS27 : uw 1 H1 o1 l1 with ⟨Hu27, ou27, lu27⟩
            rw [hS27] at hI27 hs27 hlen27 hoc27 hol27 htp27
            dsimp only at hI27 hs27 hlen27 hoc27 hol27 htp27
            refine ev_aload_n dX7_eRead_191 rfl rfl ?_
            cases Hu27 with
            | nil =>
              refine ev_getI (v := nI 0) dX7_eRead_192 fl_X7_126 (ly_k hI27.ly 65 rfl) hs27.1 ?_
              refine ev_if_ne (tgt := 200) dX7_eRead_195 (by decide) (fun c => absurd (by decide) c) (fun _ => ?_)
              refine ev_iconst (v := 0) dX7_eRead_198 (by decide) ?_
              refine ev_retz dX7_eRead_199 rfl (Or.inl rfl) (Nat.zero_le _) (Nat.zero_le _) ?_
              rw [List.length_nil] at hlen27
              exact ⟨(false, l1, T), lu27, hE _ (mr_cv.en (fun F => mr_e17F hq hS27)), rfl, fun z => (by cases z), (hF27.tk ht), hI27, hs27.2.2.2, (show lu27.length ≤ T.2.2 by omega), k2, ((hF1.tr hF2.M).tr hF27.M)⟩
            | cons cc H3 =>
              have hc0 : cc = 0 := s_rk1 htp27
              have hop : ou27 = oc H3 + 1 := hoc27.trans (oc_1 (Or.inl hc0))
              rw [List.length_cons] at hlen27
              refine ev_getI (v := nI (H3.length + 1)) dX7_eRead_192 fl_X7_126 (ly_k hI27.ly 65 rfl) hs27.1 ?_
              refine ev_if_ne (tgt := 200) dX7_eRead_195 (by decide) (fun _ => ?_) (fun c => absurd c (fun z => absurd ((nI_eq (b := 0) (by omega) (by decide)).mp z) (by omega)))
              refine ev_aload_n dX7_eRead_200 rfl rfl ?_
              refine ev_dup dX7_eRead_201 rfl ?_
              refine ev_getI (v := nI (H3.length + 1)) dX7_eRead_202 fl_X7_126 (ly_k hI27.ly 65 rfl) hs27.1 ?_
              refine ev_iconst (v := 1) dX7_eRead_205 (by decide) ?_
              refine ev_isub (v := nI H3.length) dX7_eRead_206 (nI_pred _) ?_
              refine ev_putI dX7_eRead_207 fl_X7_126 rfl rfl (ly_k hI27.ly 65 rfl) ?_
              refine ev_aload_n dX7_eRead_210 rfl rfl ?_
              refine ev_dup dX7_eRead_211 rfl ?_
              refine ev_getI (v := nI ou27) dX7_eRead_212 fl_X7_133 (ly_k (iv_M.sc rfl hI27).ly 65 rfl) (am_ru (by omega) hs27.2.2.1) ?_
              refine ev_iconst (v := 1) dX7_eRead_215 (by decide) ?_
              refine ev_isub (v := nI (ou27 - 1)) dX7_eRead_216 (pk_sub (b := 1) (by omega)) ?_
              refine ev_putI dX7_eRead_217 fl_X7_133 rfl rfl (ly_k (iv_M.sc rfl hI27).ly 65 rfl) ?_
              refine ev_aload_n dX7_eRead_220 rfl rfl ?_
              refine ev_bipush (v := 7) dX7_eRead_221 (by decide) ?_
              have hsb28 : hs_R (am_sI (am_sI σ27 65 33 (nI H3.length)) 65 34 (nI (ou27 - 1))) H3 (ou27 - 1) lu27 := ⟨(am_ru (by omega) am_rs), hd_cg (fun k _ => am_ru (by omega) (am_ru (by omega) rfl)) hs27.2.1.2, am_rs, (am_ru (by omega) (am_ru (by omega) hs27.2.2.2))⟩
              have htk28 : tk_R (am_sI (am_sI σ27 65 33 (nI H3.length)) 65 34 (nI (ou27 - 1))) T := ⟨am_ru (by omega) (am_ru (by omega) (hF27.tk ht).1), am_ru (by omega) (am_ru (by omega) (hF27.tk ht).2.1), am_ru (by omega) (am_ru (by omega) (hF27.tk ht).2.2.1), fun z => am_ru (by omega) (am_ru (by omega) ((hF27.tk ht).2.2.2 z))⟩
              refine ev_callV (as := [.int 7]) (st := []) dX7_eRead_223 mfX7_unwinds lk_X7_143 (ly_k (iv_M.sc rfl (iv_M.sc rfl hI27)).ly 65 rfl) (by decide) rfl (c_X7_unwinds G (D + 1) A (am_sI (am_sI σ27 65 33 (nI H3.length)) 65 34 (nI (ou27 - 1))) H3 lu27 (ou27 - 1) hA (iv_M.sc rfl (iv_M.sc rfl hI27)) hsb28 hnt (by first | omega | (rw [List.length_append, List.length_singleton]; omega)) (by omega) 7 (by decide)) rfl rfl (Nat.le_of_ble_eq_true rfl) (am_hR (by omega) (by decide)) ⟨Nat.le_refl _, Nat.le_refl _⟩ ?_
              rintro _ σ28 ⟨rfl, hI28, hs28, hF28⟩
              have hlen28 := uw_len (r := 7) (H := H3) (o := (ou27 - 1)) (l := lu27)
              have hoc28 := uw_oc (by decide) (r := 7) (H := H3) (o := (ou27 - 1)) (l := lu27) (by omega)
              have hol28 := uw_o (r := 7) (H := H3) (o := (ou27 - 1)) (l := lu27)
              have htp28 := uw_tp (r := 7) (H := H3) (o := (ou27 - 1)) (l := lu27)
              rcases hS28 : uw 7 H3 (ou27 - 1) lu27 with ⟨Hu28, ou28, lu28⟩
              rw [hS28] at hI28 hs28 hlen28 hoc28 hol28 htp28
              dsimp only at hI28 hs28 hlen28 hoc28 hol28 htp28
              refine ev_goto (tgt := 14) dX7_eRead_226 (by decide) ?_
              have hlt := k4 (by rw [hq]; decide)
              exact ih false f1 T.2.2 Hu28 lu28 ou28 σ28 (fun R h => hE R (mr_cv.st (fun F => (mr_e17 hq hS27).trans (by rw [hS28])) h)) k2 ((hF28.tk htk28).1) hoc28 (by omega) (by omega) hI28 hs28 ((fr_M.wr (by decide) (fr_M.wr (by decide) ((hF1.tr hF2.M).tr hF27.M))).tr hF28.M) (by omega)
        · skip
          have hq := mt_q59 c13
          refine ev_aload_n dX7_eRead_159 rfl rfl ?_
          refine ev_iconst (v := 1) dX7_eRead_160 (by decide) ?_
          refine ev_callV (as := [.int 1]) (st := []) dX7_eRead_161 mfX7_unwinds lk_X7_143 (ly_k hI2.ly 65 rfl) (by decide) rfl (c_X7_unwinds G (D + 1) A σ2 H1 l1 o1 hA hI2 hs2 hnt (by first | omega | (rw [List.length_append, List.length_singleton]; omega)) ho1 1 (by decide)) rfl rfl (Nat.le_of_ble_eq_true rfl) (am_hR (by omega) (by decide)) ⟨Nat.le_refl _, Nat.le_refl _⟩ ?_
          rintro _ σ29 ⟨rfl, hI29, hs29, hF29⟩
          have hlen29 := uw_len (r := 1) (H := H1) (o := o1) (l := l1)
          have hoc29 := uw_oc (by decide) (r := 1) (H := H1) (o := o1) (l := l1) ho1
          have hol29 := uw_o (r := 1) (H := H1) (o := o1) (l := l1)
          have htp29 := uw_tp (r := 1) (H := H1) (o := o1) (l := l1)
          rcases hS29 : uw 1 H1 o1 l1 with ⟨Hu29, ou29, lu29⟩
          rw [hS29] at hI29 hs29 hlen29 hoc29 hol29 htp29
          dsimp only at hI29 hs29 hlen29 hoc29 hol29 htp29
          refine ev_aload_n dX7_eRead_164 rfl rfl ?_
          cases Hu29 with
          | nil =>
            refine ev_getI (v := nI 0) dX7_eRead_165 fl_X7_126 (ly_k hI29.ly 65 rfl) hs29.1 ?_
            refine ev_if_ne (tgt := 175) dX7_eRead_168 (by decide) (fun c => absurd (by decide) c) (fun _ => ?_)
            refine ev_iconst (v := 1) dX7_eRead_171 (by decide) ?_
            refine ev_goto (tgt := 176) dX7_eRead_172 (by decide) ?_
            refine ev_retz dX7_eRead_176 rfl (Or.inr rfl) (Nat.zero_le _) (Nat.zero_le _) ?_
            rw [List.length_nil] at hlen29
            exact ⟨(true, lu29, T), lu29, hE _ (mr_cv.en (fun F => (mr_e18 hq).trans (by rw [hS29]; rfl))), rfl, fun _ => rfl, (hF29.tk ht), hI29, hs29.2.2.2, (show lu29.length ≤ T.2.2 by omega), k2, ((hF1.tr hF2.M).tr hF29.M)⟩
          | cons cc H3 =>
            have hc0 : cc = 0 := s_rk1 htp29
            have hop : ou29 = oc H3 + 1 := hoc29.trans (oc_1 (Or.inl hc0))
            rw [List.length_cons] at hlen29
            refine ev_getI (v := nI (H3.length + 1)) dX7_eRead_165 fl_X7_126 (ly_k hI29.ly 65 rfl) hs29.1 ?_
            refine ev_if_ne (tgt := 175) dX7_eRead_168 (by decide) (fun _ => ?_) (fun c => absurd c (fun z => absurd ((nI_eq (b := 0) (by omega) (by decide)).mp z) (by omega)))
            refine ev_iconst (v := 0) dX7_eRead_175 (by decide) ?_
            refine ev_retz dX7_eRead_176 rfl (Or.inl rfl) (Nat.zero_le _) (Nat.zero_le _) ?_
            exact ⟨(false, lu29, T), lu29, hE _ (mr_cv.en (fun F => (mr_e18 hq).trans (by rw [hS29]; rfl))), rfl, fun z => (by cases z), (hF29.tk ht), hI29, hs29.2.2.2, (show lu29.length ≤ T.2.2 by omega), k2, ((hF1.tr hF2.M).tr hF29.M)⟩
  refine ev_aload_n dX7_eRead_0 rfl rfl ?_
  refine ev_iconst (v := 0) dX7_eRead_1 (by decide) ?_
  refine ev_putI dX7_eRead_2 fl_X7_126 rfl rfl (ly_k hI.ly 65 rfl) ?_
  refine ev_aload_n dX7_eRead_5 rfl rfl ?_
  refine ev_iconst (v := 0) dX7_eRead_6 (by decide) ?_
  refine ev_putI dX7_eRead_7 fl_X7_133 rfl rfl (ly_k (iv_M.sc rfl hI).ly 65 rfl) ?_
  refine ev_iconst (v := 1) dX7_eRead_10 (by decide) ?_
  refine ev_istore_n (lv' := [(0, .ref 65), (1, .int 1)]) dX7_eRead_11 rfl (by decide) rfl ?_
  refine ev_iconst (v := 1) dX7_eRead_12 (by decide) ?_
  refine ev_istore_n (lv' := [(0, .ref 65), (1, .int 1), (2, .int 1)]) dX7_eRead_13 rfl (by decide) rfl ?_
  exact lp _ true true a ([]) l 0 (am_sI (am_sI σ 65 33 0) 65 34 0) (fun R h => h) hn (am_ru (by omega) (am_ru (by omega) ha)) rfl (by omega) (show 0 + l.length ≤ a by omega) (iv_M.sc rfl (iv_M.sc rfl hI)) (⟨(am_ru (by omega) am_rs), trivial, am_rs, (am_ru (by omega) (am_ru (by omega) hout))⟩) (fr_M.wr (by decide) (fr_M.wr (by decide) fr_M.rf)) (Nat.lt_succ_self _)

