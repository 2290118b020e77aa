/-! the class: back -/
theorem iv_X.agr {B C : am_S} {σ : am_M} (h : iv_X B σ) (e : ∀ a k, ¬ (a = 69 ∧ s_np B ≤ k) → ¬ (a = 70 ∧ 4 * s_np B ≤ k) → C a k = B a k) : iv_X C σ := by
  have eF : ∀ a, a ≠ 69 → a ≠ 70 → C a = B a := fun a h1 h2 => funext fun k => e a k (fun z => h1 z.1) (fun z => h2 z.1)
  have en : s_np C = s_np B := congrArg sN (e 65 0 (by omega) (by omega))
  have et : s_nt C = s_nt B := congrArg sN (e 65 14 (by omega) (by omega))
  refine ⟨h.1, ?_, ?_, ⟨fun p hp => ?_, ?_⟩, ?_, ?_⟩
  · unfold x_F
    rw [eF 65 (by decide) (by decide), eF 71 (by decide) (by decide), eF 72 (by decide) (by decide), eF 73 (by decide) (by decide), eF 74 (by decide) (by decide), eF 79 (by decide) (by decide)]
    exact h.2.1
  · unfold x_S
    rw [eF 80 (by decide) (by decide), eF 81 (by decide) (by decide), eF 82 (by decide) (by decide)]
    exact h.2.2.1
  · rw [en] at hp
    obtain ⟨g, hg, q, g0, g1, g2, g4, gj⟩ := h.2.2.2.1.1 p hp
    refine ⟨g, hg, q, ?_, ?_, ?_, ?_, fun j hj => ?_⟩
    · rw [eF 66 (by decide) (by decide)]; exact g0
    · rw [eF 68 (by decide) (by decide)]; exact g1
    · rw [eF 67 (by decide) (by decide)]; exact g2
    · rw [e 69 p (by omega) (by omega)]; exact g4
    · rw [e 70 (4 * p + j) (by omega) (by omega)]; exact gj j hj
  · rw [en]; exact h.2.2.2.1.2
  · have h5 := h.2.2.2.2.1
    unfold x_T x_X s_st at h5 ⊢
    rw [et, eF 75 (by decide) (by decide), eF 76 (by decide) (by decide)]
    exact h5
  · unfold x_I
    rw [eF 65 (by decide) (by decide), eF 77 (by decide) (by decide), eF 78 (by decide) (by decide)]
    exact h.2.2.2.2.2
def bk_B (A : am_S) (q : Nat) : am_S := fun a k => if a = 69 ∧ k < q then A 77 k else s_cpy (s_b0 A) 79 73 3 a k
theorem bk_Bx {A : am_S} {q a k : Nat} (h0 : ¬ (a = 65 ∧ (k = 0 ∨ k = 6 ∨ k = 15))) (h1 : a ≠ 69) (h2 : a ≠ 73) : bk_B A q a k = A a k := (if_neg (fun z => h1 z.1)).trans ((s_cpy_x h2).trans (s_b0_x h0))
theorem bk_Bf {A : am_S} {q a : Nat} (h0 : a ≠ 65) (h1 : a ≠ 69) (h2 : a ≠ 73) : bk_B A q a = A a := funext fun k => bk_Bx (fun z => h0 z.1) h1 h2
theorem bk_B0 {A : am_S} {q : Nat} : bk_B A q 65 0 = A 65 17 ∧ bk_B A q 65 6 = A 65 18 ∧ bk_B A q 65 15 = A 65 19 := ⟨rfl, rfl, rfl⟩
theorem bk_B69 {A : am_S} {k : Nat} : bk_B A 0 69 k = A 69 k := (if_neg (fun z => absurd z.2 (Nat.not_lt_zero _))).trans ((s_cpy_x (by decide)).trans (s_b0_x (by omega)))
theorem bk_S {A : am_S} {q : Nat} : am_up (bk_B A q) 69 q (A 77 q) = bk_B A (q + 1) := by
  funext a k
  by_cases c : a = 69 ∧ k = q
  · obtain ⟨rfl, rfl⟩ := c
    rw [am_us]
    exact (if_pos ⟨rfl, Nat.lt_succ_self _⟩).symm
  · rw [am_un c]
    unfold bk_B
    by_cases d : a = 69 ∧ k < q
    · rw [if_pos d, if_pos ⟨d.1, by omega⟩]
    · rw [if_neg d, if_neg (by omega)]
/-- people from n on are gone -/
def fr_N (n : Nat) (σ τ : am_M) : Prop := τ.1 = σ.1 ∧ τ.2.1 = σ.2.1 ∧ ∀ x k, ¬ (x = 33 ∧ n ≤ k) → τ.2.2 x k = σ.2.2 x k
theorem fr_N.ly {n : Nat} {σ τ : am_M} (f : fr_N n σ τ) (h : ly_ok σ) : ly_ok τ := ly_ext h (fun a k hk => by rw [f.1]; exact hk) (fun a k _ _ h3 => f.2.2 a k (fun z => h3 z.1))
def am_bm (τ : am_M) (x y z : Int32) : am_M := am_ac (am_sI (am_sI (am_sI τ 32 12 x) 32 13 y) 32 15 z) 53 36 0 0 3
theorem iv_X.bk0 {A : am_S} {σ τ : am_M} {n : Nat} (h : iv_X A σ) (hn : A 65 17 = nI n) (hnp : n ≤ s_np A) (h7 : s_np A ≤ 7) (f : fr_N n σ τ) : iv_X (bk_B A 0) (am_bm τ (A 65 17) (A 65 18) (A 65 19)) := by
  have ep : s_np (bk_B A 0) = n := (congrArg sN (bk_B0.1.trans hn)).trans (sN_n (by omega))
  have eX : ∀ x, x ≠ 32 → x ≠ 36 → (am_bm τ (A 65 17) (A 65 18) (A 65 19)).2.1 x = σ.2.1 x := fun x h1 h2 => by
    rw [← f.2.1]
    exact (am_acX h2).trans ((funext fun _ => am_ua h1).trans ((funext fun _ => am_ua h1).trans (funext fun _ => am_ua h1)))
  have e36 : ∀ k, (am_bm τ (A 65 17) (A 65 18) (A 65 19)).2.1 36 k = if k < 3 then A 79 k else A 73 k := fun k => by
    by_cases c : k < 3
    · rw [if_pos c]
      refine (if_pos ⟨rfl, Nat.zero_le _, by omega⟩).trans ?_
      rw [Nat.zero_add, Nat.sub_zero]
      refine am_ru (by omega) (am_ru (by omega) (am_ru (by omega) ?_))
      rw [f.2.1]; exact h.r53 k
    · rw [if_neg c]
      refine (if_neg (fun z => c (by omega))).trans ?_
      refine am_ru (by omega) (am_ru (by omega) (am_ru (by omega) ?_))
      rw [f.2.1]; exact h.r36 k
  have e32 : ∀ k, (am_bm τ (A 65 17) (A 65 18) (A 65 19)).2.1 32 k = (am_sI (am_sI (am_sI τ 32 12 (A 65 17)) 32 13 (A 65 18)) 32 15 (A 65 19)).2.1 32 k := fun k => congrFun (am_acX (by decide)) k
  refine ⟨f.ly h.ly, ?_, fun s hs => ?_, ⟨fun p hp => ?_, fun p q g hp hq h1 h2 => ?_⟩, fun t ht => ?_, fun z p hp => ?_⟩
  · refine ⟨?_, ?_, ?_, ?_, ?_, ?_, ?_, ?_, ?_, ?_, ?_, ?_, ?_, ?_⟩
    · rw [e32]; exact am_ru (by omega) (am_ru (by omega) am_rs)
    · rw [e32]; exact am_ru (by omega) am_rs
    · rw [e32, bk_Bx (by omega) (by decide) (by decide)]; exact am_ru (by omega) (am_ru (by omega) (am_ru (by omega) (by rw [f.2.1]; exact h.f14)))
    · rw [e32]; exact am_rs
    · rw [eX 38 (by decide) (by decide), bk_Bx (by omega) (by decide) (by decide)]; exact h.f38
    · rw [eX 50 (by decide) (by decide), bk_Bx (by omega) (by decide) (by decide)]; exact h.f3
    · rw [eX 50 (by decide) (by decide), bk_Bx (by omega) (by decide) (by decide)]; exact h.f4
    · rw [eX 50 (by decide) (by decide), bk_Bx (by omega) (by decide) (by decide)]; exact h.f5
    · rw [eX 50 (by decide) (by decide), bk_Bx (by omega) (by decide) (by decide)]; exact h.f6
    · rw [eX 34 (by decide) (by decide), bk_Bf (by decide) (by decide) (by decide)]; exact funext h.r34
    · rw [eX 35 (by decide) (by decide), bk_Bf (by decide) (by decide) (by decide)]; exact funext h.r35
    · funext k
      rw [e36 k]
      refine Eq.symm ((if_neg (fun z => absurd z.1 (by decide))).trans ?_)
      rw [s_cpy_b, s_b0_x (by omega), s_b0_x (by omega)]
    · rw [eX 39 (by decide) (by decide), bk_Bf (by decide) (by decide) (by decide)]; exact funext h.r39
    · rw [eX 53 (by decide) (by decide), bk_Bf (by decide) (by decide) (by decide)]; exact funext h.r53
  · rw [eX (42 + 2 * s) (by omega) (by omega), eX (43 + 2 * s) (by omega) (by omega), bk_Bf (a := 80) (by decide) (by decide) (by decide), bk_Bf (a := 81) (by decide) (by decide) (by decide), bk_Bf (a := 82) (by decide) (by decide) (by decide)]
    exact h.2.2.1 s hs
  · rw [ep] at hp
    obtain ⟨g, hg, ⟨q1, q2, q3, q4⟩, g0, g1, g2, g4, gj⟩ := h.2.2.2.1.1 p (by omega)
    refine ⟨g, (f.2.2 33 p (by omega)).trans hg, ⟨q1, by show τ.1[g]? = _; rw [f.1]; exact q2, by show τ.1[g + 1]? = _; rw [f.1]; exact q3, (f.2.2 g 3 (by omega)).trans q4⟩, ?_, ?_, ?_, ?_, fun j hj => ?_⟩
    · rw [eX g (by omega) (by omega), bk_Bf (a := 66) (by decide) (by decide) (by decide)]; exact g0
    · rw [eX g (by omega) (by omega), bk_Bf (a := 68) (by decide) (by decide) (by decide)]; exact g1
    · rw [eX g (by omega) (by omega), bk_Bf (a := 67) (by decide) (by decide) (by decide)]; exact g2
    · rw [eX g (by omega) (by omega), bk_B69]; exact g4
    · rw [eX (g + 1) (by omega) (by omega), bk_Bf (a := 70) (by decide) (by decide) (by decide)]; exact gj j hj
  · rw [ep] at hp hq
    exact h.gi (by omega) (by omega) ((f.2.2 33 p (by omega)).symm.trans h1) ((f.2.2 33 q (by omega)).symm.trans h2)
  · have et : s_nt (bk_B A 0) = s_nt A := congrArg sN (bk_Bx (by omega) (by decide) (by decide))
    rw [et] at ht
    obtain ⟨x, hx, ⟨q1, q2, q3, q4, q5, q6⟩, x1, x2, xk⟩ := h.2.2.2.2.1 t ht
    have es : s_st (bk_B A 0) t 3 = s_st A t 3 := by unfold s_st; rw [bk_Bf (a := 76) (by decide) (by decide) (by decide)]
    refine ⟨x, (f.2.2 37 t (by omega)).trans hx, ⟨q1, by show τ.1[x]? = _; rw [f.1]; exact q2, by rw [es]; show τ.1[x + 1]? = _; rw [f.1]; exact q3, by show τ.1[x + 2]? = _; rw [f.1]; exact q4, (f.2.2 x 0 (by omega)).trans q5, (f.2.2 x 3 (by omega)).trans q6⟩, ?_, ?_, fun k hk => ?_⟩
    · rw [eX x (by omega) (by omega), bk_Bf (a := 76) (by decide) (by decide) (by decide)]; exact x1
    · rw [eX x (by omega) (by omega), bk_Bf (a := 76) (by decide) (by decide) (by decide)]; exact x2
    · rw [es] at hk
      rw [eX (x + 1) (by omega) (by omega), bk_Bf (a := 75) (by decide) (by decide) (by decide)]; exact xk k hk
  · rw [bk_Bx (by omega) (by decide) (by decide)] at z hp
    rw [eX 52 (by decide) (by decide), eX 51 (by decide) (by decide), bk_Bf (a := 77) (by decide) (by decide) (by decide), bk_Bf (a := 78) (by decide) (by decide) (by decide)]
    exact h.2.2.2.2.2 z p hp
theorem iv_X.bke {A : am_S} {τ : am_M} {n : Nat} (hn : A 65 17 = nI n) (h7 : n ≤ 7) (h : iv_X (gd_B (bk_B A n) (A 78) 28) τ) : iv_X (s_bk A) τ := by
  have ep : s_np (bk_B A n) = n := (congrArg sN (bk_B0.1.trans hn)).trans (sN_n (by omega))
  have eg : s_np (gd_B (bk_B A n) (A 78) 28) = n := ep
  refine h.agr (fun a k h1 h2 => ?_)
  rw [eg] at h1 h2
  unfold gd_B
  rw [ep]
  by_cases c : a = 70 ∧ k < 4 * n ∧ k < 28
  · rw [if_pos c, c.1, s_bk_70 c.2.2]
  · rw [if_neg c]
    by_cases d : a = 69 ∧ k < n
    · rw [d.1, s_bk_69 (by omega)]
      exact (if_pos ⟨rfl, d.2⟩).symm
    · refine Eq.trans ?_ (if_neg d).symm
      unfold s_bk
      by_cases e : a = 73
      · subst e
        rw [s_cpy_b, s_cpy_b, s_cpy_x (by decide), s_cpy_x (by decide), s_cpy_x (by decide), s_cpy_x (by decide)]
      · rw [s_cpy_x e, s_cpy_x (by omega), s_cpy_x (by omega), s_cpy_x e]
set_option maxHeartbeats 400000 in
theorem c_X6_back (G : am_G) (D : Nat) (A : am_S) (σ : am_M) (hA : wf_A A) (hX : iv_X A σ) : am_Mt G (D + 4) mX6_back [.ref 32] σ 0 0 (am_qG (sp_back A) σ) := by
  have b7 := wf_np7 hA
  refine am_of moX6_back (Nat.le_of_ble_eq_true rfl) ?_
  show am_Ev G mX6_back (am_R (D + 4) 0 0) 0 0 (am_qG (sp_back A) σ) 0 [(0, .ref 32)] [] σ 0 0
  refine ev_aload_n dX6_back_0 rfl rfl ?_
  refine ev_getR (b := 50) dX6_back_1 fl_X6_48 (ly_k hX.ly 32 rfl) (ly_r hX.ly 7 rfl) ?_
  refine ev_getI (v := A 65 16) dX6_back_4 fl_X6_238 (ly_k hX.ly 50 rfl) hX.f3 ?_
  refine ev_if_ne (tgt := 13) dX6_back_7 (by decide) (fun c1 => ?_) (fun c1 => ?_)
  · have hw := (wf_ii hA).resolve_left c1
    obtain ⟨-, ⟨n, hn, hnp⟩, ⟨q, hq, hqn⟩, ⟨t, ht, htn⟩, hpp, hj⟩ := hw
    rw [hn, sN_n (show n < 2 ^ 31 by omega)] at hpp
    have hcells := hX.2.2.2.2.2 c1
    rw [hn, sN_n (show n < 2 ^ 31 by omega)] at hcells
    refine ev_aload_n dX6_back_13 rfl rfl ?_
    refine ev_getR (b := 50) dX6_back_14 fl_X6_48 (ly_k hX.ly 32 rfl) (ly_r hX.ly 7 rfl) ?_
    refine ev_getI (v := nI n) dX6_back_17 fl_X6_259 (ly_k hX.ly 50 rfl) (hX.f4.trans hn) ?_
    refine ev_istore_n (lv' := [(0, .ref 32), (1, .int (nI n))]) dX6_back_20 rfl (by decide) rfl ?_
    have lp : ∀ (f : Nat) (i : Nat) (τ : am_M), n ≤ i → i ≤ s_np A → fr_N n σ τ → s_np A - i < f → am_Ev G mX6_back (am_R (D + 4) 0 0) 0 0 (am_qG (sp_back A) σ) 21 [(0, .ref 32), (1, .int (nI i))] [] τ 0 0 := by
      intro f
      induction f with
      | zero => intro i τ _ _ _ hf; exact absurd hf (Nat.not_lt_zero _)
      | succ f ih =>
        intro i τ hi1 hi2 hF hf
        have hy := hF.ly hX.ly
        have r12 : τ.2.1 32 12 = nI (s_np A) := by rw [hF.2.1]; exact hX.f12.trans (wf_np hA)
        refine ev_iload_n dX6_back_21 rfl rfl ?_
        refine ev_aload_n dX6_back_22 rfl rfl ?_
        refine ev_getI (v := nI (s_np A)) dX6_back_23 fl_X6_85 (ly_k hy 32 rfl) r12 ?_
        refine ev_icmp_ge (tgt := 42) dX6_back_26 (by decide) (fun c2 => ?_) (fun c2 => ?_)
        · refine ev_aload_n dX6_back_42 rfl rfl ?_
          refine ev_aload_n dX6_back_43 rfl rfl ?_
          refine ev_getR (b := 50) dX6_back_44 fl_X6_48 (ly_k hy 32 rfl) (ly_r hy 7 rfl) ?_
          refine ev_getI (v := A 65 17) dX6_back_47 fl_X6_259 (ly_k hy 50 rfl) (by rw [hF.2.1]; exact hX.f4) ?_
          refine ev_putI dX6_back_50 fl_X6_85 rfl rfl (ly_k hy 32 rfl) ?_
          refine ev_aload_n dX6_back_53 rfl rfl ?_
          refine ev_aload_n dX6_back_54 rfl rfl ?_
          refine ev_getR (b := 50) dX6_back_55 fl_X6_48 (ly_k hy 32 rfl) (ly_r hy 7 rfl) ?_
          refine ev_getI (v := A 65 18) dX6_back_58 fl_X6_261 (ly_k hy 50 rfl) (am_ru (by omega) (by rw [hF.2.1]; exact hX.f5)) ?_
          refine ev_putI dX6_back_61 fl_X6_88 rfl rfl (ly_k hy 32 rfl) ?_
          refine ev_aload_n dX6_back_64 rfl rfl ?_
          refine ev_aload_n dX6_back_65 rfl rfl ?_
          refine ev_getR (b := 50) dX6_back_66 fl_X6_48 (ly_k hy 32 rfl) (ly_r hy 7 rfl) ?_
          refine ev_getI (v := A 65 19) dX6_back_69 fl_X6_264 (ly_k hy 50 rfl) (am_ru (by omega) (am_ru (by omega) (by rw [hF.2.1]; exact hX.f6))) ?_
          refine ev_putI dX6_back_72 fl_X6_91 rfl rfl (ly_k hy 32 rfl) ?_
          refine ev_aload_n dX6_back_75 rfl rfl ?_
          refine ev_getR (b := 50) dX6_back_76 fl_X6_48 (ly_k hy 32 rfl) (ly_r hy 7 rfl) ?_
          refine ev_getR (b := 53) dX6_back_79 fl_X6_252 (ly_k hy 50 rfl) (ly_r hy 24 rfl) ?_
          refine ev_iconst (v := 0) dX6_back_82 (by decide) ?_
          refine ev_aload_n dX6_back_83 rfl rfl ?_
          refine ev_getR (b := 36) dX6_back_84 fl_X6_22 (ly_k hy 32 rfl) (ly_r hy 3 rfl) ?_
          refine ev_iconst (v := 0) dX6_back_87 (by decide) ?_
          refine ev_iconst (v := 3) dX6_back_88 (by decide) ?_
          refine ev_acpy (i := 0) (j := 0) (c := 3) dX6_back_89 lk_X6_253 (ly_k hy 53 rfl) (ly_k hy 36 rfl) (by decide) (by decide) (by decide) (by decide) (Nat.le_of_ble_eq_true rfl) ⟨Nat.le_add_left _ _, by simp only [am_R]; omega⟩ ?_
          have hX0 := hX.bk0 hn hnp b7 hF
          refine ev_iconst (v := 0) dX6_back_92 (by decide) ?_
          refine ev_istore_n (lv' := [(0, .ref 32), (1, .int 0)]) dX6_back_93 rfl (by decide) rfl ?_
          have lq : ∀ (f : Nat) (k : Nat) (υ : am_M), k ≤ n → iv_X (bk_B A k) υ → fr_L σ υ → υ.2.1 52 = σ.2.1 52 → υ.2.1 51 = σ.2.1 51 → n - k < f → am_Ev G mX6_back (am_R (D + 4) 0 0) 0 0 (am_qG (sp_back A) σ) 94 [(0, .ref 32), (1, .int (nI k))] [] υ 0 0 := by
            intro f
            induction f with
            | zero => intro k υ _ _ _ _ _ hf; exact absurd hf (Nat.not_lt_zero _)
            | succ f ih2 =>
              intro k υ hk hXk hL h52 h51 hf
              have ep : s_np (bk_B A k) = n := (congrArg sN (bk_B0.1.trans hn)).trans (sN_n (by omega))
              have hQ : wq_A (bk_B A k) := ⟨by rw [ep]; exact bk_B0.1.trans hn, by rw [ep]; omega⟩
              refine ev_iload_n dX6_back_94 rfl rfl ?_
              refine ev_aload_n dX6_back_95 rfl rfl ?_
              refine ev_getI (v := nI n) dX6_back_96 fl_X6_85 (ly_k hXk.ly 32 rfl) (hXk.f12.trans (bk_B0.1.trans hn)) ?_
              refine ev_icmp_ge (tgt := 131) dX6_back_99 (by decide) (fun c3 => ?_) (fun c3 => ?_)
              · have ek : k = n := by
                  have := (nI_leI (a := n) (b := k) (by omega) (by omega)).mp c3
                  omega
                subst ek
                refine ev_aload_n dX6_back_131 rfl rfl ?_
                refine ev_aload_n dX6_back_132 rfl rfl ?_
                refine ev_getR (b := 50) dX6_back_133 fl_X6_48 (ly_k hXk.ly 32 rfl) (ly_r hXk.ly 7 rfl) ?_
                refine ev_getR (b := 51) dX6_back_136 fl_X6_242 (ly_k hXk.ly 50 rfl) (ly_r hXk.ly 22 rfl) ?_
                refine ev_callV (as := [.ref 51]) (st := []) dX6_back_139 mfX6_giveDepths lk_X6_265 (ly_k hXk.ly 32 rfl) (by decide) rfl (c_X6_giveDepths G D (bk_B A k) υ hQ hXk 51 (Or.inl rfl) (A 78) (fun y hy2 => ?_)) rfl rfl (Nat.le_of_ble_eq_true rfl) (am_hR (by omega) (by decide)) ⟨Nat.le_refl _, Nat.le_refl _⟩ ?_
                · rw [ep] at hy2
                  have z1 := (hcells (y / 4) (by omega)).2 (y % 4) (by omega)
                  have z2 := (hpp (y / 4) (by omega)).2 (y % 4) (by omega)
                  rw [Nat.div_add_mod] at z1 z2
                  exact ⟨(congrFun h51 y).trans z1, z2⟩
                · rintro _ σz ⟨rfl, hZ, hFz⟩
                  have hZ2 := iv_X.bke hn (by omega) hZ
                  have e65 : s_bk A 65 0 = A 65 17 := (s_bk_x (by decide) (by decide) (by decide)).trans rfl
                  refine ev_aload_n dX6_back_142 rfl rfl ?_
                  refine ev_getI (v := A 65 17) dX6_back_143 fl_X6_85 (ly_k hZ2.ly 32 rfl) (hZ2.f12.trans e65) ?_
                  refine ev_reti dX6_back_146 rfl (Nat.zero_le _) (Nat.zero_le _) (am_qGi (B := s_bk A) ?_ hZ2 (hL.tr hFz.L))
                  unfold sp_back
                  rw [if_neg c1]
              · have c3n : k < n := by
                  have : ¬ n ≤ k := fun z => c3 ((nI_leI (a := n) (b := k) (by omega) (by omega)).mpr z)
                  omega
                have hp : k < s_np (bk_B A k) := by rw [ep]; exact c3n
                obtain ⟨g, hg⟩ := hXk.ge hp
                have h9 := hXk.g9 hp hg
                refine ev_aload_n dX6_back_102 rfl rfl ?_
                refine ev_iload_n dX6_back_103 rfl rfl ?_
                refine ev_callV (as := [.int (nI k)]) (st := []) dX6_back_104 mfX6_personAt lk_X6_128 (ly_k hXk.ly 32 rfl) (by decide) rfl (c_X6_personAtW G D (bk_B A k) υ hQ hXk k g hp hg) rfl rfl (Nat.le_of_ble_eq_true rfl) (am_hR (by omega) (by decide)) ⟨Nat.le_refl _, Nat.le_refl _⟩ ?_
                rintro _ _ ⟨rfl, rfl⟩
                refine ev_astore_n (lv' := [(0, .ref 32), (1, .int (nI k)), (2, .ref g)]) dX6_back_107 rfl (by decide) rfl ?_
                refine ev_aload_n dX6_back_108 rfl rfl ?_
                refine ev_ifnullR dX6_back_109 ?_
                refine ev_aload_n dX6_back_112 rfl rfl ?_
                refine ev_aload_n dX6_back_113 rfl rfl ?_
                refine ev_getR (b := 50) dX6_back_114 fl_X6_48 (ly_k hXk.ly 32 rfl) (ly_r hXk.ly 7 rfl) ?_
                refine ev_getR (b := 52) dX6_back_117 fl_X6_249 (ly_k hXk.ly 50 rfl) (ly_r hXk.ly 23 rfl) ?_
                refine ev_iload_n dX6_back_120 rfl rfl ?_
                refine ev_iald (v := A 77 k) dX6_back_121 (ly_k hXk.ly 52 rfl) (am_ixn (by omega) (by decide)) ((congrFun h52 k).trans (hcells k c3n).1) ?_
                refine ev_putI dX6_back_122 fl_X6_143 rfl rfl (hXk.gk hp hg) ?_
                refine ev_iinc (lv' := [(0, .ref 32), (1, .int (nI (k + 1))), (2, .ref g)]) (v := nI (k + 1)) dX6_back_125 rfl (nI_1 _) (by decide) rfl ?_
                refine ev_goto (tgt := 94) dX6_back_128 (by decide) ?_
                refine ev_keep (lv' := [(0, .ref 32), (1, .int (nI (k + 1)))]) [0, 1] rfl ?_
                refine ih2 (k + 1) _ (by omega) ?_ (fun a h1 h2 => (funext fun _ => am_ua (by omega)).trans (hL a h1 h2)) ((funext fun _ => am_ua (by omega)).trans h52) ((funext fun _ => am_ua (by omega)).trans h51) (by omega)
                rw [← bk_S]
                exact iv_X.w69 hp hg hXk
          have eL : ∀ x, x ≠ 32 → x ≠ 36 → (am_bm τ (A 65 17) (A 65 18) (A 65 19)).2.1 x = σ.2.1 x := fun x h1 h2 => by
            rw [← hF.2.1]
            exact (am_acX h2).trans ((funext fun _ => am_ua h1).trans ((funext fun _ => am_ua h1).trans (funext fun _ => am_ua h1)))
          exact lq _ 0 _ (Nat.zero_le _) hX0 (fun a h1 h2 => eL a (by omega) (by omega)) (eL 52 (by decide) (by decide)) (eL 51 (by decide) (by decide)) (Nat.lt_succ_self _)
        · have c2n : i < s_np A := by
            have : ¬ s_np A ≤ i := fun z => c2 ((nI_leI (a := s_np A) (b := i) (by omega) (by omega)).mpr z)
            omega
          refine ev_aload_n dX6_back_29 rfl rfl ?_
          refine ev_getR (b := 33) dX6_back_30 fl_X6_11 (ly_k hy 32 rfl) (ly_r hy 0 rfl) ?_
          refine ev_iload_n dX6_back_33 rfl rfl ?_
          refine ev_null dX6_back_34 ?_
          refine ev_aastN dX6_back_35 (ly_k hy 33 rfl) (by decide) (am_ixn (j := i) (by omega) (by decide)) ?_
          refine ev_iinc (lv' := [(0, .ref 32), (1, .int (nI (i + 1)))]) (v := nI (i + 1)) dX6_back_36 rfl (nI_1 _) (by decide) rfl ?_
          refine ev_goto (tgt := 21) dX6_back_39 (by decide) ?_
          exact ih (i + 1) _ (by omega) (by omega) ⟨hF.1, hF.2.1, fun x k hx => (am_un (by omega)).trans (hF.2.2 x k hx)⟩ (by omega)
    exact lp _ n σ (Nat.le_refl _) hnp ⟨rfl, rfl, fun _ _ _ => rfl⟩ (Nat.lt_succ_self _)
  · refine ev_bipush (v := (-3)) dX6_back_10 (by decide) ?_
    refine ev_reti dX6_back_12 rfl (Nat.zero_le _) (Nat.zero_le _) (am_qGi (B := A) ?_ hX fr_L.rf)
    unfold sp_back
    rw [if_pos c1]
