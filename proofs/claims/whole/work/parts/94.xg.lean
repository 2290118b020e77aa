/-! the class: drawn, odds, image -/
def im_B (A : am_S) (τ : am_M) : am_S := fun a k => if a = 65 ∧ 16 ≤ k ∧ k ≤ 19 then τ.2.1 50 (k - 13) else if a = 77 then τ.2.1 52 k else if a = 78 then τ.2.1 51 k else if a = 79 then τ.2.1 53 k else A a k
/-- only the image's ints have changed -/
def fr_D (σ σ' : am_M) : Prop := σ'.1 = σ.1 ∧ σ'.2.2 = σ.2.2 ∧ ∀ x, ¬ (50 ≤ x ∧ x ≤ 53) → σ'.2.1 x = σ.2.1 x
theorem fr_D.rf {σ : am_M} : fr_D σ σ := ⟨rfl, rfl, fun _ _ => rfl⟩
theorem fr_D.wr {a k : Nat} {v : Int32} {σ τ : am_M} (ha : 50 ≤ a ∧ a ≤ 53) (h : fr_D σ τ) : fr_D σ (am_sI τ a k v) := ⟨h.1, h.2.1, fun x hx => (funext fun _ => am_ua (by omega)).trans (h.2.2 x hx)⟩
theorem fr_D.tr {σ τ υ : am_M} (h : fr_D σ τ) (h2 : fr_D τ υ) : fr_D σ υ := ⟨h2.1.trans h.1, h2.2.1.trans h.2.1, fun x hx => (h2.2.2 x hx).trans (h.2.2 x hx)⟩
theorem fr_D.C {σ τ : am_M} (h : fr_D σ τ) : fr_C σ τ := ⟨h.1, h.2.1, fun a h1 h2 => h.2.2 a (by omega)⟩
theorem fr_A.D {σ τ : am_M} (h : fr_A 51 σ τ) : fr_D σ τ := ⟨h.1, h.2.1, fun x hx => h.2.2 x (by omega)⟩
theorem fr_D.ac {σ τ : am_M} {a b i j n : Nat} (hb : 50 ≤ b ∧ b ≤ 53) (h : fr_D σ τ) : fr_D σ (am_ac τ a b i j n) := ⟨h.1, h.2.1, fun x hx => (am_acX (by omega)).trans (h.2.2 x hx)⟩
theorem iv_X.imG {A B : am_S} {σ τ : am_M} (h : iv_X A σ) (f : fr_D σ τ) (hB : ∀ a k, ¬ (a = 65 ∧ 16 ≤ k ∧ k ≤ 19) → a ≠ 77 → a ≠ 78 → a ≠ 79 → B a k = A a k) (f3 : τ.2.1 50 3 = B 65 16) (f4 : τ.2.1 50 4 = B 65 17) (f5 : τ.2.1 50 5 = B 65 18) (f6 : τ.2.1 50 6 = B 65 19) (f53 : τ.2.1 53 = B 79) (hI : B 65 16 ≠ 0 → ∀ p, p < sN (B 65 17) → τ.2.1 52 p = B 77 p ∧ ∀ j, j < 4 → τ.2.1 51 (4 * p + j) = B 78 (4 * p + j)) : iv_X B τ := by
  have eA : ∀ a, a ≠ 65 → a ≠ 77 → a ≠ 78 → a ≠ 79 → B a = A a := fun a h0 h1 h2 h3 => funext fun k => hB a k (fun z => h0 z.1) h1 h2 h3
  have e5 : ∀ k, ¬ (16 ≤ k ∧ k ≤ 19) → B 65 k = A 65 k := fun k hk => hB 65 k (fun z => hk z.2) (by decide) (by decide) (by decide)
  have eX := f.2.2
  refine h.cg f.1 f.2.1 ?_ (fun s hs => ?_) (fun g hg hk hk2 => ⟨eX g (by omega), eX (g + 1) (by omega)⟩) (fun x m hx hk hk2 => ⟨eX x (by omega), eX (x + 1) (by omega)⟩) hI ⟨eA _ (by decide) (by decide) (by decide) (by decide), eA _ (by decide) (by decide) (by decide) (by decide), eA _ (by decide) (by decide) (by decide) (by decide), eA _ (by decide) (by decide) (by decide) (by decide), eA _ (by decide) (by decide) (by decide) (by decide), eA _ (by decide) (by decide) (by decide) (by decide), eA _ (by decide) (by decide) (by decide) (by decide)⟩ (congrArg sN (e5 0 (by decide))) (congrArg sN (e5 14 (by decide)))
  · refine ⟨?_, ?_, ?_, ?_, ?_, f3, f4, f5, f6, ?_, ?_, ?_, ?_, f53⟩
    · rw [eX 32 (by omega), e5 0 (by decide)]; exact h.f12
    · rw [eX 32 (by omega), e5 6 (by decide)]; exact h.f13
    · rw [eX 32 (by omega), e5 14 (by decide)]; exact h.f14
    · rw [eX 32 (by omega), e5 15 (by decide)]; exact h.f15
    · rw [eX 38 (by omega), e5 11 (by decide)]; exact h.f38
    · rw [eX 34 (by omega), eA 71 (by decide) (by decide) (by decide) (by decide)]; exact funext h.r34
    · rw [eX 35 (by omega), eA 72 (by decide) (by decide) (by decide) (by decide)]; exact funext h.r35
    · rw [eX 36 (by omega), eA 73 (by decide) (by decide) (by decide) (by decide)]; exact funext h.r36
    · rw [eX 39 (by omega), eA 74 (by decide) (by decide) (by decide) (by decide)]; exact funext h.r39
  · rw [eX (42 + 2 * s) (by omega), eX (43 + 2 * s) (by omega), eA 80 (by decide) (by decide) (by decide) (by decide), eA 81 (by decide) (by decide) (by decide) (by decide), eA 82 (by decide) (by decide) (by decide) (by decide)]
    exact h.2.2.1 s hs
theorem im_Bx {A : am_S} {τ : am_M} {a k : Nat} (h0 : ¬ (a = 65 ∧ 16 ≤ k ∧ k ≤ 19)) (h1 : a ≠ 77) (h2 : a ≠ 78) (h3 : a ≠ 79) : im_B A τ a k = A a k := (if_neg h0).trans ((if_neg h1).trans ((if_neg h2).trans (if_neg h3)))
theorem iv_X.im {A : am_S} {σ τ : am_M} (h : iv_X A σ) (f : fr_D σ τ) : iv_X (im_B A τ) τ := h.imG f (fun a k => im_Bx) rfl rfl rfl rfl rfl (fun _ p _ => ⟨rfl, fun j _ => rfl⟩)
theorem wq_im {A : am_S} {τ : am_M} (h : wf_A A) : wq_A (im_B A τ) := ⟨h.1.1, h.1.2⟩
theorem iv_X.ime {A : am_S} {σ τ : am_M} (h : iv_X A σ) (hA : wf_A A) (f : fr_D σ τ) (f3 : τ.2.1 50 3 = 1) (f4 : τ.2.1 50 4 = A 65 0) (f5 : τ.2.1 50 5 = A 65 6) (f6 : τ.2.1 50 6 = A 65 15) (f53 : ∀ k, τ.2.1 53 k = if k < 3 then A 73 k else A 79 k) (h51 : ∀ p j, p < s_np A → j < 4 → τ.2.1 51 (4 * p + j) = A 70 (4 * p + j)) (h52 : ∀ p, p < s_np A → τ.2.1 52 p = A 69 p) : iv_X (s_im A) τ := by
  have b7 := wf_np7 hA
  refine h.imG f (fun a k h0 h1 h2 h3 => (s_im_x h1 h2 h3).trans (s_i0_x h0)) ?_ ?_ ?_ ?_ ?_ (fun _ p hp => ?_)
  · rw [f3, s_im_x (by decide) (by decide) (by decide)]; rfl
  · rw [f4, s_im_x (by decide) (by decide) (by decide)]; rfl
  · rw [f5, s_im_x (by decide) (by decide) (by decide)]; rfl
  · rw [f6, s_im_x (by decide) (by decide) (by decide)]; rfl
  · funext k
    rw [f53 k]
    unfold s_im
    rw [s_cpy_b, s_cpy_x (by decide), s_cpy_x (by decide), s_cpy_x (by decide), s_cpy_x (by decide), s_i0_x (by omega), s_i0_x (by omega)]
  · have hp : p < sN (s_im A 65 17) := hp
    rw [show s_im A 65 17 = A 65 0 by rw [s_im_x (by decide) (by decide) (by decide)]; rfl] at hp
    have hp : p < s_np A := hp
    rw [h52 p hp, s_im_77 (by omega)]
    refine ⟨rfl, fun j hj => ?_⟩
    rw [h51 p j hp hj, s_im_78 (by omega)]
set_option maxHeartbeats 400000 in
set_option maxRecDepth 100000 in
theorem c_X6_drawn (G : am_G) (D : Nat) (A : am_S) (σ : am_M) (hA : wf_A A) (hX : iv_X A σ) (seed : Int32) : am_Mt G (D + 8) mX6_drawn [.ref 32, .int seed] σ 0 0 (am_qL A (.int (sp_drawn A seed)) σ) := by
  have b7 := wf_np7 hA
  have b8 := wf_nq8 hA
  have b6 := wf_nt6 hA
  have b61 := wf_nt1 hA
  have b160 := wf_tp160 hA
  have brl := wf_rlt hA
  refine am_of moX6_drawn (Nat.le_of_ble_eq_true rfl) ?_
  show am_Ev G mX6_drawn (am_R (D + 8) 0 0) 0 0 (am_qL A (.int (sp_drawn A seed)) σ) 0 [(0, .ref 32), (1, .int seed)] [] σ 0 0
  refine ev_iload_n dX6_drawn_0 rfl rfl ?_
  refine ev_if_lt (tgt := 10) dX6_drawn_1 (by decide) (fun c1 => ?_) (fun c1 => ?_)
  · skip
    refine ev_bipush (v := (-2)) dX6_drawn_10 (by decide) ?_
    refine ev_reti dX6_drawn_12 rfl (Nat.zero_le _) (Nat.zero_le _) ?_
    exact ⟨by rw [show sp_drawn A seed = -2 by unfold sp_drawn; rw [am_inF (by decide) (am_rgn (by decide) c1)]; rfl], hX, fr_L.rf⟩
  · skip
    refine ev_iload_n dX6_drawn_4 rfl rfl ?_
    refine ev_ldc dX6_drawn_5 ct_X6_234 ?_
    refine ev_icmp_lt (tgt := 13) dX6_drawn_7 (by decide) (fun c2 => ?_) (fun c2 => ?_)
    · skip
      refine ev_aload_n dX6_drawn_13 rfl rfl ?_
      refine ev_iload_n dX6_drawn_14 rfl rfl ?_
      refine ev_callV (as := [.int seed]) (st := []) dX6_drawn_15 mfX6_winnerBy lk_X6_235 (ly_k hX.ly 32 rfl) (by decide) rfl (c_X6_winnerBy G D A σ hA hX seed) rfl rfl (Nat.le_of_ble_eq_true rfl) (am_hR (by omega) (by decide)) ⟨Nat.le_refl _, Nat.le_refl _⟩ ?_
      rintro _ σ3 ⟨rfl, hX3, hF3⟩
      refine ev_reti dX6_drawn_18 rfl (Nat.zero_le _) (Nat.zero_le _) ?_
      have hk := (am_inR (n := 100000) (by decide)).mpr (am_rg1 (c := 100000) (by decide) c1 c2)
      exact ⟨by rw [show sp_drawn A seed = nI (s_wb A seed) by unfold sp_drawn; rw [hk]; rfl], hX3, (fr_L.tr fr_L.rf hF3)⟩
    · skip
      refine ev_bipush (v := (-2)) dX6_drawn_10 (by decide) ?_
      refine ev_reti dX6_drawn_12 rfl (Nat.zero_le _) (Nat.zero_le _) ?_
      exact ⟨by rw [show sp_drawn A seed = -2 by unfold sp_drawn; rw [am_inF (by decide) (am_rgm2 (c := 100000) (by decide) c2)]; rfl], hX, fr_L.rf⟩

set_option maxHeartbeats 400000 in
set_option maxRecDepth 100000 in
theorem c_X6_odds (G : am_G) (D : Nat) (A : am_S) (σ : am_M) (hA : wf_A A) (hX : iv_X A σ) (seed n t w : Int32) : am_Mt G (D + 8) mX6_odds [.ref 32, .int seed, .int n, .int t, .int w] σ 0 0 (am_qL A (.long (sp_odds A seed n t w)) σ) := by
  have b7 := wf_np7 hA
  have b8 := wf_nq8 hA
  have b6 := wf_nt6 hA
  have b61 := wf_nt1 hA
  have b160 := wf_tp160 hA
  have brl := wf_rlt hA
  refine am_of moX6_odds (Nat.le_of_ble_eq_true rfl) ?_
  show am_Ev G mX6_odds (am_R (D + 8) 0 0) 0 0 (am_qL A (.long (sp_odds A seed n t w)) σ) 0 [(0, .ref 32), (1, .int seed), (2, .int n), (3, .int t), (4, .int w)] [] σ 0 0
  refine ev_iload_n dX6_odds_0 rfl rfl ?_
  refine ev_if_lt (tgt := 21) dX6_odds_1 (by decide) (fun c1 => ?_) (fun c1 => ?_)
  · skip
    refine ev_ldc2 dX6_odds_21 ct_X6_209 ?_
    refine ev_retl dX6_odds_24 rfl (Nat.zero_le _) (Nat.zero_le _) ?_
    refine ⟨?_, hX, fr_L.rf⟩
    have e : sp_odds A seed n t w = -4611686018427387904 := if_neg (fun z => by simp only [Bool.and_eq_true, Bool.or_eq_true, decide_eq_true_eq] at z; exact absurd z.1.1.1 (by rw [am_inF (by decide) (am_rgn (by decide) c1)]; decide))
    rw [e]
  · skip
    refine ev_iload_n dX6_odds_4 rfl rfl ?_
    refine ev_ldc dX6_odds_5 ct_X6_234 ?_
    refine ev_icmp_ge (tgt := 21) dX6_odds_7 (by decide) (fun c2 => ?_) (fun c2 => ?_)
    · skip
      refine ev_ldc2 dX6_odds_21 ct_X6_209 ?_
      refine ev_retl dX6_odds_24 rfl (Nat.zero_le _) (Nat.zero_le _) ?_
      refine ⟨?_, hX, fr_L.rf⟩
      have e : sp_odds A seed n t w = -4611686018427387904 := if_neg (fun z => by simp only [Bool.and_eq_true, Bool.or_eq_true, decide_eq_true_eq] at z; exact absurd z.1.1.1 (by rw [am_inF (by decide) (am_rgm (c := 100000) (by decide) c2)]; decide))
      rw [e]
    · skip
      refine ev_iload_n dX6_odds_10 rfl rfl ?_
      refine ev_iconst (v := 1) dX6_odds_11 (by decide) ?_
      refine ev_icmp_lt (tgt := 21) dX6_odds_12 (by decide) (fun c3 => ?_) (fun c3 => ?_)
      · skip
        refine ev_ldc2 dX6_odds_21 ct_X6_209 ?_
        refine ev_retl dX6_odds_24 rfl (Nat.zero_le _) (Nat.zero_le _) ?_
        refine ⟨?_, hX, fr_L.rf⟩
        have e : sp_odds A seed n t w = -4611686018427387904 := if_neg (fun z => by simp only [Bool.and_eq_true, Bool.or_eq_true, decide_eq_true_eq] at z; exact absurd z.1.1.2.1 (Int32.not_le.mpr c3))
        rw [e]
      · skip
        refine ev_iload_n dX6_odds_15 rfl rfl ?_
        refine ev_bipush (v := 30) dX6_odds_16 (by decide) ?_
        refine ev_icmp_le (tgt := 25) dX6_odds_18 (by decide) (fun c4 => ?_) (fun c4 => ?_)
        · skip
          have hk := (am_inR (n := 100000) (by decide)).mpr (am_rg2 (c := 100000) (by decide) c1 c2)
          obtain ⟨N, hN1, hN30, rfl⟩ := am_130 ⟨Int32.not_lt.mp c3, c4⟩
          refine ev_iload_n dX6_odds_25 rfl rfl ?_
          refine ev_callS (as := [.int t]) (st := []) dX6_odds_26 mfX6_isTable lk_X6_161 (c_X6_isTable G (D + 7) σ t) rfl rfl (Nat.le_of_ble_eq_true rfl) (am_hR (by omega) (by decide)) ⟨Nat.le_refl _, Nat.le_refl _⟩ ?_
          rintro _ _ (⟨⟨T, hT, rfl⟩, rfl, rfl⟩ | ⟨hnt, rfl, rfl⟩)
          · skip
            refine ev_if_eq (tgt := 40) dX6_odds_29 (by decide) (fun c => absurd c (by decide)) (fun _ => ?_)
            refine ev_iload dX6_odds_32 rfl ?_
            refine ev_callS (as := [.int w]) (st := []) dX6_odds_34 mfX6_isZeroOrOne lk_X6_158 (c_X6_isZeroOrOne G (D + 7) σ w) rfl rfl (Nat.le_of_ble_eq_true rfl) (am_hR (by omega) (by decide)) ⟨Nat.le_refl _, Nat.le_refl _⟩ ?_
            rintro _ _ (⟨rfl | rfl, rfl, rfl⟩ | ⟨h5, rfl, rfl⟩)
            · skip
              refine ev_if_ne (tgt := 44) dX6_odds_37 (by decide) (fun _ => ?_) (fun c => absurd c (by decide))
              refine ev_iconst (v := 0) dX6_odds_44 (by decide) ?_
              refine ev_istore (lv' := [(0, .ref 32), (1, .int seed), (2, .int (nI N)), (3, .int (nI T)), (4, .int 0), (5, .int 0)]) dX6_odds_45 (by decide) rfl ?_
              refine ev_iconst (v := 0) dX6_odds_47 (by decide) ?_
              refine ev_istore (lv' := [(0, .ref 32), (1, .int seed), (2, .int (nI N)), (3, .int (nI T)), (4, .int 0), (5, .int 0), (6, .int 0)]) dX6_odds_48 (by decide) rfl ?_
              have lp : ∀ (f : Nat) (k : Nat) (σ1 : am_M), (k ≤ N) → (iv_X A σ1) → (fr_L σ σ1) → N - k < f → am_Ev G mX6_odds (am_R (D + 8) 0 0) 0 0 (am_qL A (.long (sp_odds A seed (nI N) (nI T) 0)) σ) 50 [(0, .ref 32), (1, .int seed), (2, .int (nI N)), (3, .int (nI T)), (4, .int 0), (5, .int (nI (s_od A seed T k))), (6, .int (nI k))] [] σ1 0 0 := by
                intro f
                induction f with
                | zero => intro k σ1 hk2 hX1 hF1 hf; exact absurd hf (Nat.not_lt_zero _)
                | succ f ih =>
                  intro k σ1 hk2 hX1 hF1 hf
                  refine ev_iload dX6_odds_50 rfl ?_
                  refine ev_iload_n dX6_odds_52 rfl rfl ?_
                  refine ev_icmp_ge (tgt := 77) dX6_odds_53 (by decide) (fun c6 => ?_) (fun c6 => ?_)
                  · skip
                    have c6n : N ≤ k := (nI_leI (a := N) (b := k) (by omega) (by omega)).mp c6
                    have hod := s_odle (A := A) (x := seed) (T := T) k
                    refine ev_iload dX6_odds_77 rfl ?_
                    refine ev_iload_n dX6_odds_79 rfl rfl ?_
                    refine ev_iload dX6_odds_80 rfl ?_
                    refine ev_callS (as := [.int (nI (s_od A seed T k)), .int (nI N), .int 0]) (st := []) dX6_odds_82 mfX6_lowest lk_X6_211 (c_X6_lowest G (D + 7) σ1 (s_od A seed T k) N 0 (by omega) (by omega) (by omega)) rfl rfl (Nat.le_of_ble_eq_true rfl) (am_hR (by omega) (by decide)) ⟨Nat.le_refl _, Nat.le_refl _⟩ ?_
                    rintro _ _ ⟨rfl, rfl⟩
                    refine ev_retl dX6_odds_85 rfl (Nat.zero_le _) (Nat.zero_le _) ?_
                    have e : k = N := by omega
                    subst e
                    refine ⟨?_, hX1, hF1⟩
                    have e : sp_odds A seed (nI k) (nI T) 0 = s_lo (s_od A seed T k) k (decide ((0 : Int32) = 0)) := by
                      unfold sp_odds
                      rw [hk, am_inN hT (by omega), sN_n (show T < 2 ^ 31 by omega), sN_n (show k < 2 ^ 31 by omega), decide_eq_true (show (1 : Int32) ≤ nI k from (nI_leI (a := 1) (b := k) (by decide) (by omega)).mpr (by omega)), decide_eq_true (show nI k ≤ 30 from (nI_leI (a := k) (b := 30) (by omega) (by decide)).mpr (by omega))]
                      simp
                    rw [e]
                  · skip
                    have c6n : ¬ N ≤ k := fun zz => c6 ((nI_leI (a := N) (b := k) (by omega) (by omega)).mpr zz)
                    refine ev_aload_n dX6_odds_56 rfl rfl ?_
                    refine ev_iload_n dX6_odds_57 rfl rfl ?_
                    refine ev_iload dX6_odds_58 rfl ?_
                    refine ev_iadd (v := seed + (nI k)) dX6_odds_60 rfl ?_
                    refine ev_callV (as := [.int (seed + (nI k))]) (st := []) dX6_odds_61 mfX6_winnerBy lk_X6_235 (ly_k hX1.ly 32 rfl) (by decide) rfl (c_X6_winnerBy G D A σ1 hA hX1 (seed + (nI k))) rfl rfl (Nat.le_of_ble_eq_true rfl) (am_hR (by omega) (by decide)) ⟨Nat.le_refl _, Nat.le_refl _⟩ ?_
                    rintro _ σ7 ⟨rfl, hX7, hF7⟩
                    have hwn : s_wb A (seed + nI k) < 3 := s_wn3 _
                    refine ev_iload_n dX6_odds_64 rfl rfl ?_
                    refine ev_icmp_ne (tgt := 71) dX6_odds_65 (by decide) (fun c8 => ?_) (fun c8 => ?_)
                    · skip
                      have c8n : ¬ (s_wb A (seed + (nI k))) = T := fun zz => c8 ((nI_eq (a := (s_wb A (seed + (nI k)))) (b := T) (by omega) (by omega)).mpr zz)
                      rw [show nI (s_od A seed T k) = nI (s_od A seed T (k + 1)) from congrArg nI (s_odN2 c8n)]
                      change am_Ev G mX6_odds (am_R (D + 8) 0 0) 0 0 (am_qL A (.long (sp_odds A seed (nI N) (nI T) 0)) σ) 71 [(0, .ref 32), (1, .int seed), (2, .int (nI N)), (3, .int (nI T)), (4, .int 0), (5, .int (nI (s_od A seed T (k + 1)))), (6, .int (nI k))] [] σ7 0 0
                      refine ev_iinc (lv' := [(0, .ref 32), (1, .int seed), (2, .int (nI N)), (3, .int (nI T)), (4, .int 0), (5, .int (nI (s_od A seed T (k + 1)))), (6, .int (nI (k + 1)))]) (v := nI (k + 1)) dX6_odds_71 rfl (nI_1 _) (by decide) rfl ?_
                      refine ev_goto (tgt := 50) dX6_odds_74 (by decide) ?_
                      exact ih (k + 1) σ7 (by omega) hX7 (fr_L.tr hF1 hF7) (by omega)
                    · skip
                      have c8n : (s_wb A (seed + (nI k))) = T := (nI_eq (a := (s_wb A (seed + (nI k)))) (b := T) (by omega) (by omega)).mp c8
                      refine ev_iinc (lv' := [(0, .ref 32), (1, .int seed), (2, .int (nI N)), (3, .int (nI T)), (4, .int 0), (5, .int (nI (s_od A seed T k + 1))), (6, .int (nI k))]) (v := nI (s_od A seed T k + 1)) dX6_odds_68 rfl (nI_1 _) (by decide) rfl ?_
                      rw [show nI (s_od A seed T k + 1) = nI (s_od A seed T (k + 1)) from congrArg nI (s_odY2 c8n)]
                      change am_Ev G mX6_odds (am_R (D + 8) 0 0) 0 0 (am_qL A (.long (sp_odds A seed (nI N) (nI T) 0)) σ) 71 [(0, .ref 32), (1, .int seed), (2, .int (nI N)), (3, .int (nI T)), (4, .int 0), (5, .int (nI (s_od A seed T (k + 1)))), (6, .int (nI k))] [] σ7 0 0
                      refine ev_iinc (lv' := [(0, .ref 32), (1, .int seed), (2, .int (nI N)), (3, .int (nI T)), (4, .int 0), (5, .int (nI (s_od A seed T (k + 1)))), (6, .int (nI (k + 1)))]) (v := nI (k + 1)) dX6_odds_71 rfl (nI_1 _) (by decide) rfl ?_
                      refine ev_goto (tgt := 50) dX6_odds_74 (by decide) ?_
                      exact ih (k + 1) σ7 (by omega) hX7 (fr_L.tr hF1 hF7) (by omega)
              exact lp _ 0 σ (Nat.zero_le _) hX fr_L.rf (Nat.lt_succ_self _)
            · skip
              refine ev_if_ne (tgt := 44) dX6_odds_37 (by decide) (fun _ => ?_) (fun c => absurd c (by decide))
              refine ev_iconst (v := 0) dX6_odds_44 (by decide) ?_
              refine ev_istore (lv' := [(0, .ref 32), (1, .int seed), (2, .int (nI N)), (3, .int (nI T)), (4, .int 1), (5, .int 0)]) dX6_odds_45 (by decide) rfl ?_
              refine ev_iconst (v := 0) dX6_odds_47 (by decide) ?_
              refine ev_istore (lv' := [(0, .ref 32), (1, .int seed), (2, .int (nI N)), (3, .int (nI T)), (4, .int 1), (5, .int 0), (6, .int 0)]) dX6_odds_48 (by decide) rfl ?_
              have lp : ∀ (f : Nat) (k : Nat) (σ1 : am_M), (k ≤ N) → (iv_X A σ1) → (fr_L σ σ1) → N - k < f → am_Ev G mX6_odds (am_R (D + 8) 0 0) 0 0 (am_qL A (.long (sp_odds A seed (nI N) (nI T) 1)) σ) 50 [(0, .ref 32), (1, .int seed), (2, .int (nI N)), (3, .int (nI T)), (4, .int 1), (5, .int (nI (s_od A seed T k))), (6, .int (nI k))] [] σ1 0 0 := by
                intro f
                induction f with
                | zero => intro k σ1 hk2 hX1 hF1 hf; exact absurd hf (Nat.not_lt_zero _)
                | succ f ih =>
                  intro k σ1 hk2 hX1 hF1 hf
                  refine ev_iload dX6_odds_50 rfl ?_
                  refine ev_iload_n dX6_odds_52 rfl rfl ?_
                  refine ev_icmp_ge (tgt := 77) dX6_odds_53 (by decide) (fun c9 => ?_) (fun c9 => ?_)
                  · skip
                    have c9n : N ≤ k := (nI_leI (a := N) (b := k) (by omega) (by omega)).mp c9
                    have hod := s_odle (A := A) (x := seed) (T := T) k
                    refine ev_iload dX6_odds_77 rfl ?_
                    refine ev_iload_n dX6_odds_79 rfl rfl ?_
                    refine ev_iload dX6_odds_80 rfl ?_
                    refine ev_callS (as := [.int (nI (s_od A seed T k)), .int (nI N), .int 1]) (st := []) dX6_odds_82 mfX6_lowest lk_X6_211 (c_X6_lowest G (D + 7) σ1 (s_od A seed T k) N 1 (by omega) (by omega) (by omega)) rfl rfl (Nat.le_of_ble_eq_true rfl) (am_hR (by omega) (by decide)) ⟨Nat.le_refl _, Nat.le_refl _⟩ ?_
                    rintro _ _ ⟨rfl, rfl⟩
                    refine ev_retl dX6_odds_85 rfl (Nat.zero_le _) (Nat.zero_le _) ?_
                    have e : k = N := by omega
                    subst e
                    refine ⟨?_, hX1, hF1⟩
                    have e : sp_odds A seed (nI k) (nI T) 1 = s_lo (s_od A seed T k) k (decide ((1 : Int32) = 0)) := by
                      unfold sp_odds
                      rw [hk, am_inN hT (by omega), sN_n (show T < 2 ^ 31 by omega), sN_n (show k < 2 ^ 31 by omega), decide_eq_true (show (1 : Int32) ≤ nI k from (nI_leI (a := 1) (b := k) (by decide) (by omega)).mpr (by omega)), decide_eq_true (show nI k ≤ 30 from (nI_leI (a := k) (b := 30) (by omega) (by decide)).mpr (by omega))]
                      simp
                    rw [e]
                  · skip
                    have c9n : ¬ N ≤ k := fun zz => c9 ((nI_leI (a := N) (b := k) (by omega) (by omega)).mpr zz)
                    refine ev_aload_n dX6_odds_56 rfl rfl ?_
                    refine ev_iload_n dX6_odds_57 rfl rfl ?_
                    refine ev_iload dX6_odds_58 rfl ?_
                    refine ev_iadd (v := seed + (nI k)) dX6_odds_60 rfl ?_
                    refine ev_callV (as := [.int (seed + (nI k))]) (st := []) dX6_odds_61 mfX6_winnerBy lk_X6_235 (ly_k hX1.ly 32 rfl) (by decide) rfl (c_X6_winnerBy G D A σ1 hA hX1 (seed + (nI k))) rfl rfl (Nat.le_of_ble_eq_true rfl) (am_hR (by omega) (by decide)) ⟨Nat.le_refl _, Nat.le_refl _⟩ ?_
                    rintro _ σ10 ⟨rfl, hX10, hF10⟩
                    have hwn : s_wb A (seed + nI k) < 3 := s_wn3 _
                    refine ev_iload_n dX6_odds_64 rfl rfl ?_
                    refine ev_icmp_ne (tgt := 71) dX6_odds_65 (by decide) (fun c11 => ?_) (fun c11 => ?_)
                    · skip
                      have c11n : ¬ (s_wb A (seed + (nI k))) = T := fun zz => c11 ((nI_eq (a := (s_wb A (seed + (nI k)))) (b := T) (by omega) (by omega)).mpr zz)
                      rw [show nI (s_od A seed T k) = nI (s_od A seed T (k + 1)) from congrArg nI (s_odN2 c11n)]
                      change am_Ev G mX6_odds (am_R (D + 8) 0 0) 0 0 (am_qL A (.long (sp_odds A seed (nI N) (nI T) 1)) σ) 71 [(0, .ref 32), (1, .int seed), (2, .int (nI N)), (3, .int (nI T)), (4, .int 1), (5, .int (nI (s_od A seed T (k + 1)))), (6, .int (nI k))] [] σ10 0 0
                      refine ev_iinc (lv' := [(0, .ref 32), (1, .int seed), (2, .int (nI N)), (3, .int (nI T)), (4, .int 1), (5, .int (nI (s_od A seed T (k + 1)))), (6, .int (nI (k + 1)))]) (v := nI (k + 1)) dX6_odds_71 rfl (nI_1 _) (by decide) rfl ?_
                      refine ev_goto (tgt := 50) dX6_odds_74 (by decide) ?_
                      exact ih (k + 1) σ10 (by omega) hX10 (fr_L.tr hF1 hF10) (by omega)
                    · skip
                      have c11n : (s_wb A (seed + (nI k))) = T := (nI_eq (a := (s_wb A (seed + (nI k)))) (b := T) (by omega) (by omega)).mp c11
                      refine ev_iinc (lv' := [(0, .ref 32), (1, .int seed), (2, .int (nI N)), (3, .int (nI T)), (4, .int 1), (5, .int (nI (s_od A seed T k + 1))), (6, .int (nI k))]) (v := nI (s_od A seed T k + 1)) dX6_odds_68 rfl (nI_1 _) (by decide) rfl ?_
                      rw [show nI (s_od A seed T k + 1) = nI (s_od A seed T (k + 1)) from congrArg nI (s_odY2 c11n)]
                      change am_Ev G mX6_odds (am_R (D + 8) 0 0) 0 0 (am_qL A (.long (sp_odds A seed (nI N) (nI T) 1)) σ) 71 [(0, .ref 32), (1, .int seed), (2, .int (nI N)), (3, .int (nI T)), (4, .int 1), (5, .int (nI (s_od A seed T (k + 1)))), (6, .int (nI k))] [] σ10 0 0
                      refine ev_iinc (lv' := [(0, .ref 32), (1, .int seed), (2, .int (nI N)), (3, .int (nI T)), (4, .int 1), (5, .int (nI (s_od A seed T (k + 1)))), (6, .int (nI (k + 1)))]) (v := nI (k + 1)) dX6_odds_71 rfl (nI_1 _) (by decide) rfl ?_
                      refine ev_goto (tgt := 50) dX6_odds_74 (by decide) ?_
                      exact ih (k + 1) σ10 (by omega) hX10 (fr_L.tr hF1 hF10) (by omega)
              exact lp _ 0 σ (Nat.zero_le _) hX fr_L.rf (Nat.lt_succ_self _)
            · skip
              refine ev_if_ne (tgt := 44) dX6_odds_37 (by decide) (fun c => absurd (by decide) c) (fun _ => ?_)
              refine ev_ldc2 dX6_odds_40 ct_X6_209 ?_
              refine ev_retl dX6_odds_43 rfl (Nat.zero_le _) (Nat.zero_le _) ?_
              refine ⟨?_, hX, fr_L.rf⟩
              have e : sp_odds A seed (nI N) (nI T) w = -4611686018427387904 := if_neg (fun z => by simp only [Bool.and_eq_true, Bool.or_eq_true, decide_eq_true_eq] at z; exact h5 z.2)
              rw [e]
          · skip
            refine ev_if_eq (tgt := 40) dX6_odds_29 (by decide) (fun _ => ?_) (fun c => absurd (by decide) c)
            refine ev_ldc2 dX6_odds_40 ct_X6_209 ?_
            refine ev_retl dX6_odds_43 rfl (Nat.zero_le _) (Nat.zero_le _) ?_
            refine ⟨?_, hX, fr_L.rf⟩
            have e : sp_odds A seed (nI N) t w = -4611686018427387904 := if_neg (fun z => by simp only [Bool.and_eq_true, Bool.or_eq_true, decide_eq_true_eq] at z; exact absurd z.1.2 (by rw [am_inF (by decide) hnt]; decide))
            rw [e]
        · skip
          refine ev_ldc2 dX6_odds_21 ct_X6_209 ?_
          refine ev_retl dX6_odds_24 rfl (Nat.zero_le _) (Nat.zero_le _) ?_
          refine ⟨?_, hX, fr_L.rf⟩
          have e : sp_odds A seed n t w = -4611686018427387904 := if_neg (fun z => by simp only [Bool.and_eq_true, Bool.or_eq_true, decide_eq_true_eq] at z; exact c4 z.1.1.2.2)
          rw [e]

set_option maxHeartbeats 400000 in
set_option maxRecDepth 100000 in
theorem c_X6_image (G : am_G) (D : Nat) (A : am_S) (σ : am_M) (hA : wf_A A) (hX : iv_X A σ)  : am_Mt G (D + 3) mX6_image [.ref 32] σ 0 0 (am_qD (sp_image A) σ) := by
  have b7 := wf_np7 hA
  have b8 := wf_nq8 hA
  have b6 := wf_nt6 hA
  have b61 := wf_nt1 hA
  have b160 := wf_tp160 hA
  have brl := wf_rlt hA
  refine am_of moX6_image (Nat.le_of_ble_eq_true rfl) ?_
  show am_Ev G mX6_image (am_R (D + 3) 0 0) 0 0 (am_qD (sp_image A) σ) 0 [(0, .ref 32)] [] σ 0 0
  refine ev_aload_n dX6_image_0 rfl rfl ?_
  refine ev_getR (b := 50) dX6_image_1 fl_X6_48 (ly_k (hX.im fr_D.rf).ly 32 rfl) (ly_r hX.ly 7 rfl) ?_
  refine ev_iconst (v := 1) dX6_image_4 (by decide) ?_
  refine ev_putZ dX6_image_5 fl_X6_238 rfl rfl (Or.inr rfl) (ly_k (hX.im fr_D.rf).ly 50 rfl) ?_
  refine ev_aload_n dX6_image_8 rfl rfl ?_
  refine ev_aload_n dX6_image_9 rfl rfl ?_
  refine ev_getR (b := 50) dX6_image_10 fl_X6_48 (ly_k (hX.im (fr_D.wr (by omega) fr_D.rf)).ly 32 rfl) (ly_r (hX.im (fr_D.wr (by omega) fr_D.rf)).ly 7 rfl) ?_
  refine ev_getR (b := 51) dX6_image_13 fl_X6_242 (ly_k (hX.im (fr_D.wr (by omega) fr_D.rf)).ly 50 rfl) (ly_r (hX.im (fr_D.wr (by omega) fr_D.rf)).ly 22 rfl) ?_
  refine ev_callV (as := [.ref 51]) (st := []) dX6_image_16 mfX6_keepDepths lk_X6_245 (ly_k (hX.im (fr_D.wr (by omega) fr_D.rf)).ly 32 rfl) (by decide) rfl (c_X6_keepDepths G D (im_B A (am_sI σ 50 3 1)) (am_sI σ 50 3 1) (wq_im hA) (hX.im (fr_D.wr (by omega) fr_D.rf)) 51 (Or.inl rfl)) rfl rfl (Nat.le_of_ble_eq_true rfl) (am_hR (by omega) (by decide)) ⟨Nat.le_refl _, Nat.le_refl _⟩ ?_
  rintro _ σk ⟨rfl, hK, hv⟩
  have hDk : fr_D σ σk := fr_D.tr (fr_D.wr (by omega) fr_D.rf) hK.D
  have h503 : σk.2.1 50 3 = 1 := (congrFun (hK.2.2 50 (by decide)) 3).trans am_rs
  refine ev_iconst (v := 0) dX6_image_19 (by decide) ?_
  refine ev_istore_n (lv' := [(0, .ref 32), (1, .int 0)]) dX6_image_20 rfl (by decide) rfl ?_
  have lp : ∀ (f : Nat) (p : Nat) (σ1 : am_M), (p ≤ s_np A) → (fr_D σ σ1) → (σ1.2.1 50 3 = 1) → (∀ q j, q < s_np A → j < 4 → σ1.2.1 51 (4 * q + j) = A 70 (4 * q + j)) → (∀ q, q < p → σ1.2.1 52 q = A 69 q) → (∀ k, σ1.2.1 53 k = A 79 k) → s_np A - p < f → am_Ev G mX6_image (am_R (D + 3) 0 0) 0 0 (am_qD (sp_image A) σ) 21 [(0, .ref 32), (1, .int (nI p))] [] σ1 0 0 := by
    intro f
    induction f with
    | zero => intro p σ1 hpn hD1 h3 h51 h52 hx53 hf; exact absurd hf (Nat.not_lt_zero _)
    | succ f ih =>
      intro p σ1 hpn hD1 h3 h51 h52 hx53 hf
      refine ev_iload_n dX6_image_21 rfl rfl ?_
      refine ev_aload_n dX6_image_22 rfl rfl ?_
      refine ev_getI (v := nI (s_np A)) dX6_image_23 fl_X6_85 (ly_k (hX.im hD1).ly 32 rfl) ((congrFun (hD1.2.2 32 (by omega)) 12).trans (hX.f12.trans (wf_np hA))) ?_
      refine ev_icmp_ge (tgt := 58) dX6_image_26 (by decide) (fun c1 => ?_) (fun c1 => ?_)
      · skip
        have c1n : (s_np A) ≤ p := (nI_leI (a := (s_np A)) (b := p) (by omega) (by omega)).mp c1
        refine ev_aload_n dX6_image_58 rfl rfl ?_
        refine ev_getR (b := 36) dX6_image_59 fl_X6_22 (ly_k (hX.im hD1).ly 32 rfl) (ly_r (hX.im hD1).ly 3 rfl) ?_
        refine ev_iconst (v := 0) dX6_image_62 (by decide) ?_
        refine ev_aload_n dX6_image_63 rfl rfl ?_
        refine ev_getR (b := 50) dX6_image_64 fl_X6_48 (ly_k (hX.im hD1).ly 32 rfl) (ly_r (hX.im hD1).ly 7 rfl) ?_
        refine ev_getR (b := 53) dX6_image_67 fl_X6_252 (ly_k (hX.im hD1).ly 50 rfl) (ly_r (hX.im hD1).ly 24 rfl) ?_
        refine ev_iconst (v := 0) dX6_image_70 (by decide) ?_
        refine ev_iconst (v := 3) dX6_image_71 (by decide) ?_
        refine ev_acpy (i := 0) (j := 0) (c := 3) dX6_image_72 lk_X6_253 (ly_k (hX.im hD1).ly 36 rfl) (ly_k (hX.im hD1).ly 53 rfl) (by omega) (by omega) (by decide) (by decide) (Nat.le_of_ble_eq_true rfl) ⟨Nat.le_add_left _ _, by simp only [am_R]; omega⟩ ?_
        refine ev_aload_n dX6_image_75 rfl rfl ?_
        refine ev_getR (b := 50) dX6_image_76 fl_X6_48 (ly_k (hX.im (fr_D.ac (a := 36) (i := 0) (j := 0) (n := 3) (by omega) hD1)).ly 32 rfl) (ly_r (hX.im (fr_D.ac (a := 36) (i := 0) (j := 0) (n := 3) (by omega) hD1)).ly 7 rfl) ?_
        refine ev_aload_n dX6_image_79 rfl rfl ?_
        refine ev_getI (v := nI (s_np A)) dX6_image_80 fl_X6_85 (ly_k (hX.im (fr_D.ac (a := 36) (i := 0) (j := 0) (n := 3) (by omega) hD1)).ly 32 rfl) ((congrFun ((fr_D.ac (a := 36) (i := 0) (j := 0) (n := 3) (by omega) hD1).2.2 32 (by omega)) 12).trans (hX.f12.trans (wf_np hA))) ?_
        refine ev_putI dX6_image_83 fl_X6_259 rfl rfl (ly_k (hX.im (fr_D.ac (a := 36) (i := 0) (j := 0) (n := 3) (by omega) hD1)).ly 50 rfl) ?_
        refine ev_aload_n dX6_image_86 rfl rfl ?_
        refine ev_getR (b := 50) dX6_image_87 fl_X6_48 (ly_k (hX.im (fr_D.wr (by omega) (fr_D.ac (a := 36) (i := 0) (j := 0) (n := 3) (by omega) hD1))).ly 32 rfl) (ly_r (hX.im (fr_D.wr (by omega) (fr_D.ac (a := 36) (i := 0) (j := 0) (n := 3) (by omega) hD1))).ly 7 rfl) ?_
        refine ev_aload_n dX6_image_90 rfl rfl ?_
        refine ev_getI (v := nI (s_nq A)) dX6_image_91 fl_X6_88 (ly_k (hX.im (fr_D.wr (by omega) (fr_D.ac (a := 36) (i := 0) (j := 0) (n := 3) (by omega) hD1))).ly 32 rfl) ((congrFun ((fr_D.wr (by omega) (fr_D.ac (a := 36) (i := 0) (j := 0) (n := 3) (by omega) hD1)).2.2 32 (by omega)) 13).trans (hX.f13.trans (wf_nq hA))) ?_
        refine ev_putI dX6_image_94 fl_X6_261 rfl rfl (ly_k (hX.im (fr_D.wr (by omega) (fr_D.ac (a := 36) (i := 0) (j := 0) (n := 3) (by omega) hD1))).ly 50 rfl) ?_
        refine ev_aload_n dX6_image_97 rfl rfl ?_
        refine ev_getR (b := 50) dX6_image_98 fl_X6_48 (ly_k (hX.im (fr_D.wr (by omega) (fr_D.wr (by omega) (fr_D.ac (a := 36) (i := 0) (j := 0) (n := 3) (by omega) hD1)))).ly 32 rfl) (ly_r (hX.im (fr_D.wr (by omega) (fr_D.wr (by omega) (fr_D.ac (a := 36) (i := 0) (j := 0) (n := 3) (by omega) hD1)))).ly 7 rfl) ?_
        refine ev_aload_n dX6_image_101 rfl rfl ?_
        refine ev_getI (v := A 65 15) dX6_image_102 fl_X6_91 (ly_k (hX.im (fr_D.wr (by omega) (fr_D.wr (by omega) (fr_D.ac (a := 36) (i := 0) (j := 0) (n := 3) (by omega) hD1)))).ly 32 rfl) ((congrFun ((fr_D.wr (by omega) (fr_D.wr (by omega) (fr_D.ac (a := 36) (i := 0) (j := 0) (n := 3) (by omega) hD1))).2.2 32 (by omega)) 15).trans (hX.f15)) ?_
        refine ev_putI dX6_image_105 fl_X6_264 rfl rfl (ly_k (hX.im (fr_D.wr (by omega) (fr_D.wr (by omega) (fr_D.ac (a := 36) (i := 0) (j := 0) (n := 3) (by omega) hD1)))).ly 50 rfl) ?_
        refine ev_aload_n dX6_image_108 rfl rfl ?_
        refine ev_getI (v := nI (s_np A)) dX6_image_109 fl_X6_85 (ly_k (hX.im (fr_D.wr (by omega) (fr_D.wr (by omega) (fr_D.wr (by omega) (fr_D.ac (a := 36) (i := 0) (j := 0) (n := 3) (by omega) hD1))))).ly 32 rfl) ((congrFun ((fr_D.wr (by omega) (fr_D.wr (by omega) (fr_D.wr (by omega) (fr_D.ac (a := 36) (i := 0) (j := 0) (n := 3) (by omega) hD1)))).2.2 32 (by omega)) 12).trans (hX.f12.trans (wf_np hA))) ?_
        refine ev_reti dX6_image_112 rfl (Nat.zero_le _) (Nat.zero_le _) ?_
        have e : p = s_np A := by omega
        subst e
        refine am_qDi (B := s_im A) (by unfold sp_image; rw [wf_np hA]) (hX.ime hA (fr_D.wr (by omega) (fr_D.wr (by omega) (fr_D.wr (by omega) (fr_D.ac (a := 36) (i := 0) (j := 0) (n := 3) (by omega) hD1)))) ?_ ?_ ?_ ?_ (fun k => ?_) (fun q j hq hj => ?_) (fun q hq => ?_)) (fr_D.C (fr_D.wr (by omega) (fr_D.wr (by omega) (fr_D.wr (by omega) (fr_D.ac (a := 36) (i := 0) (j := 0) (n := 3) (by omega) hD1)))))
        · exact am_ru (by omega) (am_ru (by omega) (am_ru (by omega) ((congrFun (am_acX (by decide)) 3).trans h3)))
        · exact am_ru (by omega) (am_ru (by omega) (am_rs.trans (wf_np hA).symm))
        · exact am_ru (by omega) (am_rs.trans (wf_nq hA).symm)
        · exact am_rs
        · refine am_ru (by omega) (am_ru (by omega) (am_ru (by omega) ?_))
          by_cases c : k < 3
          · rw [if_pos c]; refine (if_pos ⟨rfl, Nat.zero_le _, by omega⟩).trans ?_
            rw [Nat.zero_add, Nat.sub_zero, hD1.2.2 36 (by omega)]; exact hX.r36 k
          · rw [if_neg c]; refine (if_neg (fun z => c (by omega))).trans ?_
            exact hx53 k
        · exact am_ru (by omega) (am_ru (by omega) (am_ru (by omega) ((congrFun (am_acX (by decide)) _).trans (h51 q j hq hj))))
        · exact am_ru (by omega) (am_ru (by omega) (am_ru (by omega) ((congrFun (am_acX (by decide)) _).trans (h52 q hq))))
      · skip
        have c1n : ¬ (s_np A) ≤ p := fun zz => c1 ((nI_leI (a := (s_np A)) (b := p) (by omega) (by omega)).mpr zz)
        refine ev_aload_n dX6_image_29 rfl rfl ?_
        refine ev_iload_n dX6_image_30 rfl rfl ?_
        have hp : p < s_np A := by omega
        obtain ⟨g, hg⟩ := hX.ge hp
        have h9 := hX.g9 hp hg
        refine ev_callV (as := [.int (nI p)]) (st := []) dX6_image_31 mfX6_personAt lk_X6_128 (ly_k (hX.im hD1).ly 32 rfl) (by decide) rfl (c_X6_personAtW G (D + 2) (im_B A σ1) σ1 (wq_im hA) (hX.im hD1) p g hp (by rw [hD1.2.1]; exact hg)) rfl rfl (Nat.le_of_ble_eq_true rfl) (am_hR (by omega) (by decide)) ⟨Nat.le_refl _, Nat.le_refl _⟩ ?_
        rintro _ _ ⟨rfl, rfl⟩
        refine ev_astore_n (lv' := [(0, .ref 32), (1, .int (nI p)), (2, .ref g)]) dX6_image_34 rfl (by decide) rfl ?_
        refine ev_aload_n dX6_image_35 rfl rfl ?_
        refine ev_ifnullR dX6_image_36 ?_
        refine ev_aload_n dX6_image_39 rfl rfl ?_
        refine ev_getR (b := 50) dX6_image_40 fl_X6_48 (ly_k (hX.im hD1).ly 32 rfl) (ly_r (hX.im hD1).ly 7 rfl) ?_
        refine ev_getR (b := 52) dX6_image_43 fl_X6_249 (ly_k (hX.im hD1).ly 50 rfl) (ly_r (hX.im hD1).ly 23 rfl) ?_
        refine ev_iload_n dX6_image_46 rfl rfl ?_
        refine ev_aload_n dX6_image_47 rfl rfl ?_
        refine ev_getI (v := A 69 p) dX6_image_48 fl_X6_143 (by rw [hD1.1]; exact hX.gk hp hg) ((congrFun (hD1.2.2 g (by omega)) 4).trans (hX.g4 hp hg)) ?_
        refine ev_iast dX6_image_51 (ly_k (hX.im hD1).ly 52 rfl) (am_ixn (by omega) (by decide)) ?_
        refine ev_iinc (lv' := [(0, .ref 32), (1, .int (nI (p + 1))), (2, .ref g)]) (v := nI (p + 1)) dX6_image_52 rfl (nI_1 _) (by decide) rfl ?_
        refine ev_goto (tgt := 21) dX6_image_55 (by decide) ?_
        refine ev_keep (lv' := [(0, .ref 32), (1, .int (nI (p + 1)))]) [0, 1] rfl ?_
        exact ih (p + 1) (am_sI σ1 52 p (A 69 p)) (by omega) (fr_D.wr (by omega) hD1) (am_ru (by omega) h3) (fun q j hq hj => (am_ru (by omega) (h51 q j hq hj))) (fun q hq => by by_cases e : q = p; (subst e; exact am_rs); exact am_ru (by omega) (h52 q (by omega))) (fun k => am_ru (by omega) (hx53 k)) (by omega)
  exact lp _ 0 σk (Nat.zero_le _) hDk h503 hv (fun q hq => absurd hq (Nat.not_lt_zero _)) (fun k => (congrFun (hK.2.2 53 (by decide)) k).trans (am_ru (by omega) (hX.r53 k))) (Nat.lt_succ_self _)

