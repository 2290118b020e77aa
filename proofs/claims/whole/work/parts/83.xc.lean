/-! the class: films, depths and laws from told sheets, copies, triples -/
theorem wf_82x {A B : am_S} (h : wf_A A) (e2 : ∀ a, a ≠ 82 → B a = A a) : wf_A B := by
  unfold wf_A s_np s_nq s_tp s_nt s_rl wf_p wf_q wf_t s_cs s_st s_sl wf_i wf_s s_np s_nq s_nt
  rw [e2 65 (by decide), e2 66 (by decide), e2 67 (by decide), e2 68 (by decide), e2 69 (by decide), e2 70 (by decide), e2 71 (by decide), e2 72 (by decide), e2 73 (by decide), e2 74 (by decide), e2 75 (by decide), e2 76 (by decide), e2 77 (by decide), e2 78 (by decide), e2 79 (by decide), e2 80 (by decide), e2 81 (by decide)]
  exact h
/-- a film under way: questions below q -/
def s_fq (A : am_S) (S T q : Nat) : am_S := fun a i => if a = 82 ∧ 40 * S ≤ i ∧ i < 40 * S + 40 then (if i - 40 * S < q ∧ s_rt A (s_se A T) (i - 40 * S) = true then 1 else 0) else am_up (am_up A 80 S 2) 81 S (A 65 6) a i
theorem s_s0v {A : am_S} {S a i : Nat} : ∀ n, s_s0 A S n a i = if a = 82 ∧ 40 * S ≤ i ∧ i < 40 * S + n then 0 else A a i := by
  intro n
  induction n with
  | zero => exact (if_neg (by omega)).symm
  | succ n ih =>
    show am_up (s_s0 A S n) 82 (40 * S + n) 0 a i = _
    by_cases e : a = 82 ∧ i = 40 * S + n
    · rw [show am_up (s_s0 A S n) 82 (40 * S + n) 0 a i = 0 from if_pos e, if_pos (by omega)]
    · rw [am_un e, ih]
      by_cases c : a = 82 ∧ 40 * S ≤ i ∧ i < 40 * S + n
      · rw [if_pos c, if_pos (by omega)]
      · rw [if_neg c, if_neg (by omega)]
theorem s_fq0 {A : am_S} {S T : Nat} : s_s0 (am_up (am_up A 80 S 2) 81 S (nI (s_nq A))) S 40 = s_fq A S T 0 ∨ ¬ A 65 6 = nI (s_nq A) := by
  by_cases h : A 65 6 = nI (s_nq A)
  · left
    funext a i
    rw [s_s0v]
    unfold s_fq
    by_cases c : a = 82 ∧ 40 * S ≤ i ∧ i < 40 * S + 40
    · rw [if_pos c, if_pos c, if_neg (fun z => absurd z.1 (Nat.not_lt_zero _))]
    · rw [if_neg c, if_neg c, h]
  · exact Or.inr h
theorem s_fqS {A : am_S} {S T q : Nat} (hq : q < 40) : am_up (s_fq A S T q) 82 (40 * S + q) (s_b2 (s_rt A (s_se A T) q)) = s_fq A S T (q + 1) := by
  funext a i
  by_cases e : a = 82 ∧ i = 40 * S + q
  · obtain ⟨rfl, rfl⟩ := e
    rw [am_us]
    unfold s_fq
    rw [if_pos (by omega), Nat.add_sub_cancel_left]
    cases s_rt A (s_se A T) q with
    | true => rw [if_pos ⟨Nat.lt_succ_self q, rfl⟩]; rfl
    | false => rw [if_neg (fun z => Bool.false_ne_true z.2)]; rfl
  · rw [am_un e]
    unfold s_fq
    by_cases c : a = 82 ∧ 40 * S ≤ i ∧ i < 40 * S + 40
    · rw [if_pos c, if_pos c]
      have : (i - 40 * S < q) = (i - 40 * S < q + 1) := by apply propext; omega
      simp only [this]
    · rw [if_neg c, if_neg c]
theorem s_fmv {A : am_S} {S T a i : Nat} : ∀ n, n ≤ 40 → s_fm A S T n a i = if a = 82 ∧ 40 * S ≤ i ∧ i < 40 * S + n then (if i - 40 * S < s_nq A ∧ s_rt A (s_se A T) (i - 40 * S) = true then 1 else 0) else am_up (am_up A 80 S 2) 81 S (A 65 6) a i := by
  intro n
  induction n with
  | zero => intro _; exact (if_neg (by omega)).symm
  | succ n ih =>
    intro hn
    show am_up (s_fm A S T n) 82 (40 * S + n) _ a i = _
    by_cases e : a = 82 ∧ i = 40 * S + n
    · rw [show am_up (s_fm A S T n) 82 (40 * S + n) _ a i = _ from if_pos e, if_pos (show a = 82 ∧ 40 * S ≤ i ∧ i < 40 * S + (n + 1) by omega)]
      obtain ⟨rfl, rfl⟩ := e
      rw [Nat.add_sub_cancel_left]
    · rw [am_un e, ih (by omega)]
      by_cases c : a = 82 ∧ 40 * S ≤ i ∧ i < 40 * S + n
      · rw [if_pos c, if_pos (show a = 82 ∧ 40 * S ≤ i ∧ i < 40 * S + (n + 1) by omega)]
      · rw [if_neg c, if_neg (show ¬ (a = 82 ∧ 40 * S ≤ i ∧ i < 40 * S + (n + 1)) by omega)]
theorem s_fqE {A : am_S} {S T : Nat} : s_fq A S T (s_nq A) = s_fm A S T 40 := funext fun a => funext fun i => (s_fmv 40 (Nat.le_refl _)).symm
theorem wf_fq {A : am_S} {S T q : Nat} (h : wf_A A) : wf_A (s_fq A S T q) := by
  have h1 : wf_A (am_up (am_up A 80 S 2) 81 S (A 65 6)) := wf_81 (wf_80 h (Or.inr ⟨2, by decide, rfl⟩)) ⟨s_nq A, by have := wf_nq8 h; omega, wf_nq h⟩
  exact wf_82x h1 (fun a ha => funext fun i => if_neg (fun z => ha z.1))
theorem s_fq_x {A : am_S} {S T q a i : Nat} (h1 : a ≠ 80) (h2 : a ≠ 81) (h3 : a ≠ 82) : s_fq A S T q a i = A a i := (if_neg (fun z => h3 z.1)).trans ((am_ua h2).trans (am_ua h1))
theorem s_fq81 {A : am_S} {S T q : Nat} : s_fq A S T q 81 S = A 65 6 := (if_neg (fun z => absurd z.1 (by decide))).trans am_us
theorem s_fq80 {A : am_S} {S T q : Nat} : s_fq A S T q 80 S = 2 := (if_neg (fun z => absurd z.1 (by decide))).trans ((am_ua (by decide)).trans am_us)
theorem am_fiX {σ : am_M} {a x : Nat} {v : Int32} (h : x ≠ a) : ∀ {n : Nat}, (am_fi σ a v n).2.1 x = σ.2.1 x
  | 0 => rfl
  | n + 1 => (funext fun _ => am_ua h).trans (am_fiX h)
set_option maxHeartbeats 400000 in
set_option maxRecDepth 100000 in
theorem c_X6_film (G : am_G) (D : Nat) (A : am_S) (σ : am_M) (hA : wf_A A) (hX : iv_X A σ) (s t : Int32) : am_Mt G (D + 6) mX6_film [.ref 32, .int s, .int t] σ 0 0 (am_qD (sp_film A s t) σ) := by
  have b7 := wf_np7 hA
  have b8 := wf_nq8 hA
  have b6 := wf_nt6 hA
  have b61 := wf_nt1 hA
  have b160 := wf_tp160 hA
  have brl := wf_rlt hA
  refine am_of moX6_film (Nat.le_of_ble_eq_true rfl) ?_
  show am_Ev G mX6_film (am_R (D + 6) 0 0) 0 0 (am_qD (sp_film A s t) σ) 0 [(0, .ref 32), (1, .int s), (2, .int t)] [] σ 0 0
  refine ev_aload_n dX6_film_0 rfl rfl ?_
  refine ev_iload_n dX6_film_1 rfl rfl ?_
  refine ev_callV (as := [.int s]) (st := []) dX6_film_2 mfX6_sheetAt lk_X6_225 (ly_k hX.ly 32 rfl) (by decide) rfl (c_X6_sheetAt G (D + 5) A σ hX s) rfl rfl (Nat.le_of_ble_eq_true rfl) (am_hR (by omega) (by decide)) ⟨Nat.le_refl _, Nat.le_refl _⟩ ?_
  rintro _ _ (⟨S, rfl, hS, rfl, rfl⟩ | ⟨hn1, rfl, rfl⟩)
  · skip
    refine ev_astore_n (lv' := [(0, .ref 32), (1, .int (nI S)), (2, .int t), (3, .ref (42 + 2 * S))]) dX6_film_5 rfl (by decide) rfl ?_
    refine ev_aload_n dX6_film_6 rfl rfl ?_
    refine ev_ifnonnullR (tgt := 13) dX6_film_7 (by decide) ?_
    refine ev_iload_n dX6_film_13 rfl rfl ?_
    refine ev_callS (as := [.int t]) (st := []) dX6_film_14 mfX6_isTable lk_X6_161 (c_X6_isTable G (D + 5) σ t) rfl rfl (Nat.le_of_ble_eq_true rfl) (am_hR (by omega) (by decide)) ⟨Nat.le_refl _, Nat.le_refl _⟩ ?_
    rintro _ _ (⟨⟨j2, h2, rfl⟩, rfl, rfl⟩ | ⟨h2, rfl, rfl⟩)
    · skip
      refine ev_if_ne (tgt := 23) dX6_film_17 (by decide) (fun _ => ?_) (fun c => absurd c (by decide))
      have hz40 := (ws_z hA hS).2
      refine ev_aload_n dX6_film_23 rfl rfl ?_
      refine ev_callV (as := []) (st := []) dX6_film_24 mfX6_reckon lk_X6_164 (ly_k hX.ly 32 rfl) (by decide) rfl (c_X6_reckon G (D + 1) A σ hA hX ) rfl rfl (Nat.le_of_ble_eq_true rfl) (am_hR (by omega) (by decide)) ⟨Nat.le_refl _, Nat.le_refl _⟩ ?_
      rintro _ σ3 ⟨rfl, hX3, hF3, hc3, hr3⟩
      refine ev_aload_n dX6_film_27 rfl rfl ?_
      refine ev_iconst (v := 2) dX6_film_28 (by decide) ?_
      refine ev_aload_n dX6_film_29 rfl rfl ?_
      refine ev_getI (v := nI (s_nq A)) dX6_film_30 fl_X6_88 (ly_k hX3.ly 32 rfl) (hX3.f13.trans (wf_nq hA)) ?_
      refine ev_callV (as := [.int 2, .int (nI (s_nq A))]) (st := []) dX6_film_33 mfX3_become lk_X6_229 (ly_s hX3.ly hS).2.1 (by decide) rfl (c_X3_become G (D + 3) A σ3 hX3 S hS 2 (nI (s_nq A))) rfl rfl (Nat.le_of_ble_eq_true rfl) (am_hR (by omega) (by decide)) ⟨Nat.le_refl _, Nat.le_refl _⟩ ?_
      rintro _ _ ⟨rfl, rfl⟩
      rw [am_bd40 (V := s_nq A) (by omega)]
      refine ev_iconst (v := 0) dX6_film_36 (by decide) ?_
      refine ev_istore (lv' := [(0, .ref 32), (1, .int (nI S)), (2, .int (nI j2)), (3, .ref (42 + 2 * S)), (4, .int 0)]) dX6_film_37 (by decide) rfl ?_
      have lp : ∀ (f : Nat) (q : Nat) (τ : am_M), (q ≤ s_nq A) → (iv_X (s_fq A S j2 q) τ) → (fr_C σ τ) → (cr_X A τ) → s_nq A - q < f → am_Ev G mX6_film (am_R (D + 6) 0 0) 0 0 (am_qD (sp_film A (nI S) (nI j2)) σ) 39 [(0, .ref 32), (1, .int (nI S)), (2, .int (nI j2)), (3, .ref (42 + 2 * S)), (4, .int (nI q))] [] τ 0 0 := by
        intro f
        induction f with
        | zero => intro q τ hq hXt hFt hrt hf; exact absurd hf (Nat.not_lt_zero _)
        | succ f ih =>
          intro q τ hq hXt hFt hrt hf
          refine ev_iload dX6_film_39 rfl ?_
          refine ev_aload_n dX6_film_41 rfl rfl ?_
          refine ev_getI (v := nI (s_nq A)) dX6_film_42 fl_X6_88 (ly_k hXt.ly 32 rfl) (hXt.f13.trans ((s_fq_x (by decide) (by decide) (by decide)).trans (wf_nq hA))) ?_
          refine ev_icmp_ge (tgt := 71) dX6_film_45 (by decide) (fun c4 => ?_) (fun c4 => ?_)
          · skip
            have c4n : (s_nq A) ≤ q := (nI_leI (a := (s_nq A)) (b := q) (by omega) (by omega)).mp c4
            refine ev_aload_n dX6_film_71 rfl rfl ?_
            refine ev_getI (v := nI (s_nq A)) dX6_film_72 fl_X6_88 (ly_k hXt.ly 32 rfl) (hXt.f13.trans ((s_fq_x (by decide) (by decide) (by decide)).trans (wf_nq hA))) ?_
            refine ev_reti dX6_film_75 rfl (Nat.zero_le _) (Nat.zero_le _) ?_
            have e : q = s_nq A := by omega
            subst e
            refine am_qDi (B := s_fm A S j2 40) ?_ (by rw [← s_fqE]; exact hXt) hFt
            simp [sp_film, wf_nq hA, am_inN hS (by omega), sN_n (show S < 2 ^ 31 by omega), am_inN h2 (by omega), sN_n (show j2 < 2 ^ 31 by omega)]
          · skip
            have c4n : ¬ (s_nq A) ≤ q := fun zz => c4 ((nI_leI (a := (s_nq A)) (b := q) (by omega) (by omega)).mpr zz)
            refine ev_aload_n dX6_film_48 rfl rfl ?_
            refine ev_iload dX6_film_49 rfl ?_
            refine ev_aload_n dX6_film_51 rfl rfl ?_
            refine ev_getR (b := 59) dX6_film_52 fl_X6_59 (ly_k hXt.ly 32 rfl) (ly_r hXt.ly 9 rfl) ?_
            refine ev_iload_n dX6_film_55 rfl rfl ?_
            refine ev_iald (v := nI (mk_m (s_rt A (s_se A j2)) (s_nq A))) dX6_film_56 (ly_k hXt.ly 59 rfl) (am_ixn (by omega) (by decide)) (hrt j2 (by omega)) ?_
            refine ev_iload dX6_film_57 rfl ?_
            refine ev_ishr (v := (nI (mk_m (s_rt A (s_se A j2)) (s_nq A))) >>> ((nI q) &&& 31)) dX6_film_59 rfl ?_
            refine ev_iconst (v := 1) dX6_film_60 (by decide) ?_
            refine ev_iand (v := s_b2 (s_rt A (s_se A j2) q)) dX6_film_61 (by rw [mk_get (by omega) (by omega)]; cases s_rt A _ _ <;> rfl) ?_
            refine ev_callV (as := [.int (nI q), .int (s_b2 (s_rt A (s_se A j2) q))]) (st := []) dX6_film_62 mfX3_put lk_X6_232 (ly_s hXt.ly hS).2.1 (by decide) rfl (c_X3_put G (D + 4) (s_fq A S j2 q) τ (wf_fq hA) hXt S hS q (by rw [s_fq81, wf_nq hA, sN_n (by omega)]; omega) (s_b2 (s_rt A (s_se A j2) q))) rfl rfl (Nat.le_of_ble_eq_true rfl) (am_hR (by omega) (by decide)) ⟨Nat.le_refl _, Nat.le_refl _⟩ ?_
            rintro _ _ ⟨rfl, rfl⟩
            refine ev_iinc (lv' := [(0, .ref 32), (1, .int (nI S)), (2, .int (nI j2)), (3, .ref (42 + 2 * S)), (4, .int (nI (q + 1)))]) (v := nI (q + 1)) dX6_film_65 rfl (nI_1 _) (by decide) rfl ?_
            refine ev_goto (tgt := 39) dX6_film_68 (by decide) ?_
            exact ih (q + 1) (am_sI τ (43 + 2 * S) q (s_cast ((s_fq A S j2 q) 80 S) (s_b2 (s_rt A (s_se A j2) q)))) (by omega) (by have z : iv_X (am_up (s_fq A S j2 q) 82 (40 * S + q) (s_cast ((s_fq A S j2 q) 80 S) (s_b2 (s_rt A (s_se A j2) q)))) (am_sI τ (43 + 2 * S) q (s_cast ((s_fq A S j2 q) 80 S) (s_b2 (s_rt A (s_se A j2) q)))) := (iv_X.wsn hS (by omega) hXt); have e : s_cast (s_fq A S j2 q 80 S) (s_b2 (s_rt A (s_se A j2) q)) = s_b2 (s_rt A (s_se A j2) q) := (by rw [s_fq80]; rfl); rw [e] at z ⊢; rw [s_fqS (by omega)] at z; exact z) (fr_C.wr (by omega) hFt) (cr_X.z (by omega) hrt) (by omega)
      exact lp _ 0 (am_fi (am_sI (am_sI σ3 (42 + 2 * S) 1 2) (42 + 2 * S) 2 (nI (s_nq A))) (43 + 2 * S) 0 40) (Nat.zero_le _) (by have z : iv_X (s_s0 (am_up (am_up A 80 S 2) 81 S (nI (s_nq A))) S 40) (am_fi (am_sI (am_sI σ3 (42 + 2 * S) 1 2) (42 + 2 * S) 2 (nI (s_nq A))) (43 + 2 * S) 0 40) := (iv_X.fl hS (iv_X.ws2 hS (iv_X.ws1 hS hX3)) 40 (Nat.le_refl _)); rw [(s_fq0 (A := A) (S := S) (T := j2)).resolve_right (fun z => z (wf_nq hA))] at z; exact z) (fr_C.fl (by omega) (fr_C.wr (by omega) (fr_C.wr (by omega) (fr_C.tr fr_C.rf hF3))) 40) (cr_X.cg hr3 (by rw [am_fiX (by omega)]; exact funext fun y => (am_ua (by omega)).trans (am_ua (by omega)))) (Nat.lt_succ_self _)
    · skip
      refine ev_if_ne (tgt := 23) dX6_film_17 (by decide) (fun c => absurd (by decide) c) (fun _ => ?_)
      refine ev_bipush (v := (-5)) dX6_film_20 (by decide) ?_
      refine ev_reti dX6_film_22 rfl (Nat.zero_le _) (Nat.zero_le _) ?_
      refine am_qDi (B := A) ?_ hX fr_C.rf
      simp [sp_film, am_inN hS (by omega), sN_n (show S < 2 ^ 31 by omega), am_inF (by omega) h2]
  · skip
    refine ev_astore_nN (lv' := [(0, .ref 32), (1, .int s), (2, .int t), (3, .null)]) dX6_film_5 rfl (by decide) rfl ?_
    refine ev_aload_nN dX6_film_6 rfl rfl ?_
    refine ev_ifnonnullN dX6_film_7 ?_
    refine ev_bipush (v := (-2)) dX6_film_10 (by decide) ?_
    refine ev_reti dX6_film_12 rfl (Nat.zero_le _) (Nat.zero_le _) ?_
    refine am_qDi (B := A) ?_ hX fr_C.rf
    simp [sp_film, am_inF (by decide) hn1]

theorem s_ulA {A : am_S} {s : Nat} {S S' : Nat → Bool} (h : S = S') : s_ul A s S = s_ul A s S' := by rw [h]
set_option maxHeartbeats 400000 in
set_option maxRecDepth 100000 in
theorem c_X6_laws (G : am_G) (D : Nat) (A : am_S) (σ : am_M) (hA : wf_A A) (hX : iv_X A σ) (s t : Int32) : am_Mt G (D + 6) mX6_laws [.ref 32, .int s, .int t] σ 0 0 (am_qC A (.int (sp_laws A s t)) σ) := by
  have b7 := wf_np7 hA
  have b8 := wf_nq8 hA
  have b6 := wf_nt6 hA
  have b61 := wf_nt1 hA
  have b160 := wf_tp160 hA
  have brl := wf_rlt hA
  refine am_of moX6_laws (Nat.le_of_ble_eq_true rfl) ?_
  show am_Ev G mX6_laws (am_R (D + 6) 0 0) 0 0 (am_qC A (.int (sp_laws A s t)) σ) 0 [(0, .ref 32), (1, .int s), (2, .int t)] [] σ 0 0
  refine ev_aload_n dX6_laws_0 rfl rfl ?_
  refine ev_iload_n dX6_laws_1 rfl rfl ?_
  refine ev_callV (as := [.int s]) (st := []) dX6_laws_2 mfX6_refusalOfTold lk_X6_219 (ly_k hX.ly 32 rfl) (by decide) rfl (c_X6_refusalOfTold G (D + 4) A σ hA hX s) rfl rfl (Nat.le_of_ble_eq_true rfl) (am_hR (by omega) (by decide)) ⟨Nat.le_refl _, Nat.le_refl _⟩ ?_
  rintro _ _ ⟨rfl, rfl⟩
  refine ev_istore_n (lv' := [(0, .ref 32), (1, .int s), (2, .int t), (3, .int (s_wr A s))]) dX6_laws_5 rfl (by decide) rfl ?_
  refine ev_iload_n dX6_laws_6 rfl rfl ?_
  refine ev_if_eq (tgt := 12) dX6_laws_7 (by decide) (fun c1 => ?_) (fun c1 => ?_)
  · skip
    obtain ⟨S, hS, rfl, hsz⟩ := s_wrz c1
    refine ev_iload_n dX6_laws_12 rfl rfl ?_
    refine ev_callS (as := [.int t]) (st := []) dX6_laws_13 mfX6_isTable lk_X6_161 (c_X6_isTable G (D + 5) σ t) rfl rfl (Nat.le_of_ble_eq_true rfl) (am_hR (by omega) (by decide)) ⟨Nat.le_refl _, Nat.le_refl _⟩ ?_
    rintro _ _ (⟨⟨j2, h2, rfl⟩, rfl, rfl⟩ | ⟨h2, rfl, rfl⟩)
    · skip
      refine ev_if_ne (tgt := 22) dX6_laws_16 (by decide) (fun _ => ?_) (fun c => absurd c (by decide))
      refine ev_aload_n dX6_laws_22 rfl rfl ?_
      refine ev_getI (v := nI (s_rl A)) dX6_laws_23 fl_X6_91 (ly_k hX.ly 32 rfl) (hX.f15.trans (wf_rl hA)) ?_
      refine ev_istore (lv' := [(0, .ref 32), (1, .int (nI S)), (2, .int (nI j2)), (3, .int (s_wr A (nI S))), (4, .int (nI (s_rl A)))]) dX6_laws_26 (by decide) rfl ?_
      refine ev_iconst (v := 0) dX6_laws_28 (by decide) ?_
      refine ev_istore (lv' := [(0, .ref 32), (1, .int (nI S)), (2, .int (nI j2)), (3, .int (s_wr A (nI S))), (4, .int (nI (s_rl A))), (5, .int 0)]) dX6_laws_29 (by decide) rfl ?_
      refine ev_iconst (v := 0) dX6_laws_31 (by decide) ?_
      refine ev_istore (lv' := [(0, .ref 32), (1, .int (nI S)), (2, .int (nI j2)), (3, .int (s_wr A (nI S))), (4, .int (nI (s_rl A))), (5, .int 0), (6, .int 0)]) dX6_laws_32 (by decide) rfl ?_
      have lp : ∀ (f : Nat) (n : Nat) (fd : Int32) (x : Int32) (τ : am_M), (n ≤ s_nt A) → (fd = nI (mk_m (fun k => decide (s_ul (s_fo A k) S (s_se A j2) = none)) n)) → (∃ k, k < s_nt A ∧ x = nI k) → (iv_X (am_up A 65 15 x) τ) → (fr_C σ τ) → s_nt A - n < f → am_Ev G mX6_laws (am_R (D + 6) 0 0) 0 0 (am_qC A (.int (sp_laws A (nI S) (nI j2))) σ) 34 [(0, .ref 32), (1, .int (nI S)), (2, .int (nI j2)), (3, .int (s_wr A (nI S))), (4, .int (nI (s_rl A))), (5, .int fd), (6, .int (nI n))] [] τ 0 0 := by
        intro f
        induction f with
        | zero => intro n fd x τ hn hfd hxx hXt hFt hf; exact absurd hf (Nat.not_lt_zero _)
        | succ f ih =>
          intro n fd x τ hn hfd hxx hXt hFt hf
          refine ev_iload dX6_laws_34 rfl ?_
          refine ev_aload_n dX6_laws_36 rfl rfl ?_
          refine ev_getI (v := nI (s_nt A)) dX6_laws_37 fl_X6_81 (ly_k hXt.ly 32 rfl) (hXt.f14.trans ((am_uk (by decide)).trans (wf_nt hA))) ?_
          refine ev_icmp_ge (tgt := 78) dX6_laws_40 (by decide) (fun c3 => ?_) (fun c3 => ?_)
          · skip
            have c3n : (s_nt A) ≤ n := (nI_leI (a := (s_nt A)) (b := n) (by omega) (by omega)).mp c3
            refine ev_aload_n dX6_laws_78 rfl rfl ?_
            refine ev_iload dX6_laws_79 rfl ?_
            refine ev_putI dX6_laws_81 fl_X6_91 rfl rfl (ly_k hXt.ly 32 rfl) ?_
            refine ev_iload dX6_laws_84 rfl ?_
            refine ev_reti dX6_laws_86 rfl (Nat.zero_le _) (Nat.zero_le _) ?_
            have e : n = s_nt A := by omega
            subst e
            refine ⟨?_, by have z : iv_X (am_up (am_up A 65 15 x) 65 15 (nI (s_rl A))) (am_sI τ 32 15 (nI (s_rl A))) := (hXt.w15); rw [am_uw2, am_uu (wf_rl hA)] at z; exact z, (fr_C.wr (by omega) hFt)⟩
            simp [sp_laws, sN_n (show S < 2 ^ 31 by omega), ← hfd, c1, am_inN h2 (by omega), sN_n (show j2 < 2 ^ 31 by omega)]
          · skip
            have c3n : ¬ (s_nt A) ≤ n := fun zz => c3 ((nI_leI (a := (s_nt A)) (b := n) (by omega) (by omega)).mpr zz)
            refine ev_aload_n dX6_laws_43 rfl rfl ?_
            refine ev_iload dX6_laws_44 rfl ?_
            refine ev_putI dX6_laws_46 fl_X6_91 rfl rfl (ly_k hXt.ly 32 rfl) ?_
            have hA2 : wf_A (am_up A 65 15 (nI n)) := wf_15 hA ⟨n, by omega, rfl⟩
            have hX2 : iv_X (am_up A 65 15 (nI n)) (am_sI τ 32 15 (nI n)) := by have z : iv_X (am_up (am_up A 65 15 x) 65 15 (nI n)) (am_sI τ 32 15 (nI n)) := (hXt.w15); rw [am_uw2] at z; exact z
            refine ev_aload_n dX6_laws_49 rfl rfl ?_
            refine ev_callV (as := []) (st := []) dX6_laws_50 mfX6_reckon lk_X6_164 (ly_k hX2.ly 32 rfl) (by decide) rfl (c_X6_reckon G (D + 1) (am_up A 65 15 (nI n)) (am_sI τ 32 15 (nI n)) hA2 hX2 ) rfl rfl (Nat.le_of_ble_eq_true rfl) (am_hR (by omega) (by decide)) ⟨Nat.le_refl _, Nat.le_refl _⟩ ?_
            rintro _ σ4 ⟨rfl, hX4, hF4, hc4, hr4⟩
            refine ev_aload_n dX6_laws_53 rfl rfl ?_
            refine ev_iload_n dX6_laws_54 rfl rfl ?_
            refine ev_iload_n dX6_laws_55 rfl rfl ?_
            refine ev_callV (as := [.int (nI S), .int (nI j2)]) (st := []) dX6_laws_56 mfX6_firstOtherwise lk_X6_222 (ly_k hX4.ly 32 rfl) (by decide) rfl (c_X6_firstOtherwise G (D + 3) (am_up A 65 15 (nI n)) σ4 hA2 hX4 S j2 hS (by omega) ((am_ua (by decide)).trans (hsz.trans (am_un (by omega)).symm)) hc4 hr4) rfl rfl (Nat.le_of_ble_eq_true rfl) (am_hR (by omega) (by decide)) ⟨Nat.le_refl _, Nat.le_refl _⟩ ?_
            rintro _ _ ⟨rfl, rfl⟩
            refine ev_iconst (v := (-1)) dX6_laws_59 (by decide) ?_
            refine ev_icmp_ne (tgt := 72) dX6_laws_60 (by decide) (fun c5 => ?_) (fun c5 => ?_)
            · skip
              have hun : ¬ s_ul (s_fo A n) S (s_se A j2) = none := fun z => c5 ((s_ulI (A := s_fo A n) (by show s_nq A ≤ 8; omega)).mpr z)
              refine ev_iinc (lv' := [(0, .ref 32), (1, .int (nI S)), (2, .int (nI j2)), (3, .int (s_wr A (nI S))), (4, .int (nI (s_rl A))), (5, .int fd), (6, .int (nI (n + 1)))]) (v := nI (n + 1)) dX6_laws_72 rfl (nI_1 _) (by decide) rfl ?_
              refine ev_goto (tgt := 34) dX6_laws_75 (by decide) ?_
              exact ih (n + 1) fd (nI n) σ4 (by omega) (by rw [hfd, mk_f (f := (fun k => decide (s_ul (s_fo A k) S (s_se A j2) = none))) (n := n) (decide_eq_false hun)]) (⟨n, by omega, rfl⟩) hX4 (fr_C.tr (fr_C.wr (by omega) hFt) hF4) (by omega)
            · skip
              have hun : s_ul (s_fo A n) S (s_se A j2) = none := (s_ulI (A := s_fo A n) (by show s_nq A ≤ 8; omega)).mp c5
              refine ev_iload dX6_laws_63 rfl ?_
              refine ev_iconst (v := 1) dX6_laws_65 (by decide) ?_
              refine ev_iload dX6_laws_66 rfl ?_
              refine ev_ishl (v := 1 <<< ((nI n) &&& 31)) dX6_laws_68 rfl ?_
              refine ev_ior (v := fd ||| (1 <<< ((nI n) &&& 31))) dX6_laws_69 rfl ?_
              refine ev_istore (lv' := [(0, .ref 32), (1, .int (nI S)), (2, .int (nI j2)), (3, .int (s_wr A (nI S))), (4, .int (nI (s_rl A))), (5, .int (fd ||| (1 <<< ((nI n) &&& 31)))), (6, .int (nI n))]) dX6_laws_70 (by decide) rfl ?_
              refine ev_iinc (lv' := [(0, .ref 32), (1, .int (nI S)), (2, .int (nI j2)), (3, .int (s_wr A (nI S))), (4, .int (nI (s_rl A))), (5, .int (fd ||| (1 <<< ((nI n) &&& 31)))), (6, .int (nI (n + 1)))]) (v := nI (n + 1)) dX6_laws_72 rfl (nI_1 _) (by decide) rfl ?_
              refine ev_goto (tgt := 34) dX6_laws_75 (by decide) ?_
              exact ih (n + 1) (fd ||| (1 <<< ((nI n) &&& 31))) (nI n) σ4 (by omega) (by rw [hfd, mk_o1 (by omega), mk_t (f := (fun k => decide (s_ul (s_fo A k) S (s_se A j2) = none))) (n := n) (decide_eq_true hun)]) (⟨n, by omega, rfl⟩) hX4 (fr_C.tr (fr_C.wr (by omega) hFt) hF4) (by omega)
      exact lp _ 0 0 (A 65 15) σ (Nat.zero_le _) rfl (⟨s_rl A, brl, wf_rl hA⟩) (by rw [am_uu rfl]; exact hX) fr_C.rf (Nat.lt_succ_self _)
    · skip
      refine ev_if_ne (tgt := 22) dX6_laws_16 (by decide) (fun c => absurd (by decide) c) (fun _ => ?_)
      refine ev_bipush (v := (-5)) dX6_laws_19 (by decide) ?_
      refine ev_reti dX6_laws_21 rfl (Nat.zero_le _) (Nat.zero_le _) ?_
      refine ⟨?_, hX, fr_C.rf⟩
      simp [sp_laws, c1, am_inF (by omega) h2, sN_n (show S < 2 ^ 31 by omega)]
  · skip
    refine ev_iload_n dX6_laws_10 rfl rfl ?_
    refine ev_reti dX6_laws_11 rfl (Nat.zero_le _) (Nat.zero_le _) ?_
    refine ⟨?_, hX, fr_C.rf⟩
    simp [sp_laws, c1]

