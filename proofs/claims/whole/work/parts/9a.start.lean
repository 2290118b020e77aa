/-! two new objects stand alike -/
theorem ini_tk {A : am_S} (h : ini_A A) : ∃ Z, s_nt Z = 0 ∧ tx_K Z A (tx (lx_nx b0_T 50)).2.1 := h.2.2.2.2.2.2.2.2.2.2.2
theorem ini_nt {A : am_S} (h : ini_A A) : s_nt A = 1 := by
  unfold s_nt
  rw [h.2.1]; rfl
theorem ini_wf {A : am_S} (h : ini_A A) : wf_A A := by
  have h5 := h.1
  have nt := ini_nt h
  have n0 : s_np A = 0 := by unfold s_np; rw [h5 0 (by decide)]; rfl
  have n1 : s_nq A = 0 := by unfold s_nq; rw [h5 6 (by decide)]; rfl
  have n2 : s_tp A = 0 := by unfold s_tp; rw [h5 11 (by decide)]; rfl
  have n4 : s_rl A = 0 := by unfold s_rl; rw [h5 15 (by decide)]; rfl
  obtain ⟨w1, w2, w3, w4⟩ := tx_W (b := b0_T) (n := 50) (by decide) tx_0
  refine ⟨?_, ?_, ?_, ?_, ?_, ?_, ?_, fun t ht => Or.inl ?_, ?_, ?_, Or.inl (h5 16 (by decide)), fun s hs => ⟨Or.inl (h.2.2.2.2.2.2.2.1 s hs), ?_⟩⟩
  · rw [n0]; exact ⟨h5 0 (by decide), by decide⟩
  · rw [n1]; exact ⟨h5 6 (by decide), by decide⟩
  · rw [n2]; exact ⟨h5 11 (by decide), by decide⟩
  · rw [nt]; exact ⟨h.2.1, by decide, by decide⟩
  · rw [n4, nt]; exact ⟨h5 15 (by decide), by decide⟩
  · rw [n0]; exact fun p hp => absurd hp (Nat.not_lt_zero _)
  · rw [n1]; exact fun p hp => absurd hp (Nat.not_lt_zero _)
  · rw [h.2.2.2.2.1 t, if_pos ht]
  · rw [n2]; exact fun p hp => absurd hp (Nat.not_lt_zero _)
  · rw [nt]
    intro t ht
    obtain ⟨Z, hZ, hK⟩ := ini_tk h
    have e : t = s_nt Z := by omega
    rw [e]
    exact wt_new hK w1 w2 w3 w4
  · rw [h.2.2.2.2.2.2.2.2.1 s]; exact ⟨0, by decide, rfl⟩
theorem c6_Wz : ∀ x, x ∉ [36, 42, 44, 46, 48] → ∀ k, c6_W x k = 0 := fun x hx k => by
  simp only [List.mem_cons, List.not_mem_nil, or_false, not_or] at hx
  obtain ⟨h1, h2, h3, h4, h5⟩ := hx
  simp [c6_W, am_up, h1, h2, h3, h4, h5]
theorem c6_W36 (k : Nat) : c6_W 36 k = if k < 3 then -1 else 0 := by
  match k with
  | 0 => rfl
  | 1 => rfl
  | 2 => rfl
  | k + 3 => rw [if_neg (by omega)]; simp [c6_W, am_up]
theorem c6_Ws : ∀ s, s < 4 → c6_W (42 + 2 * s) 1 = -1 ∧ c6_W (42 + 2 * s) 2 = 0 := by decide +kernel
theorem ini_X {A : am_S} {σ τ : am_M} (hA : ini_A A) (hc : c6_P σ) (hy : ly_ok τ) (hf : ∀ x, x < 65 → τ.2.1 x = σ.2.1 x ∧ τ.2.2 x = σ.2.2 x) : iv_X A τ := by
  obtain ⟨c1, c2, ⟨c3, c4, c5⟩, ci, c39, c38, c14, d1, d2, dk⟩ := hc
  obtain ⟨a5, a14, a71, a72, a73, a74, a79, a80, a81, a82, -, Z, hZ, hK⟩ := hA
  have nt : s_nt A = 1 := by unfold s_nt; rw [a14]; rfl
  have n0 : s_np A = 0 := by unfold s_np; rw [a5 0 (by decide)]; rfl
  have I : ∀ x k, x < 62 → x ≠ 39 → x ≠ 40 → ¬ (x = 38 ∧ 2 ≤ k) → ¬ (x = 32 ∧ k = 14) → τ.2.1 x k = c6_W x k := fun x k h1 h2 h3 h4 h5 => (congrFun (hf x (by omega)).1 k).trans (ci x k h1 h2 h3 h4 h5)
  have I0 : ∀ x, x < 62 → x ≠ 39 → x ≠ 40 → x ≠ 38 → x ≠ 32 → x ∉ [36, 42, 44, 46, 48] → τ.2.1 x = fun _ => 0 := fun x h1 h2 h3 h4 h5 h6 => funext fun k => (I x k h1 h2 h3 (fun z => h4 z.1) (fun z => h5 z.1)).trans (c6_Wz x h6 k)
  have e7 := tx_0n
  generalize hcc : (tx (lx_nx b0_T 50)).2.1 = cc at *
  obtain ⟨l1, l2, l3⟩ := cc
  obtain ⟨k0, k1, k2, k3, k4⟩ := hK
  rw [hZ] at k0 k1 k2 k3 k4
  have e7 : (l1 ++ l2 ++ l3).length = 7 := e7
  have k0 : ∀ i, i < (l1 ++ l2 ++ l3).length → A 75 (200 * 0 + i) = (l1 ++ l2 ++ l3).getD i 0 := k0
  have k2 : A 76 (4 * 0 + 1) = nI l1.length := k2
  have k3 : A 76 (4 * 0 + 2) = nI (l1 ++ l2).length := k3
  have k4 : A 76 (4 * 0 + 3) = nI (l1 ++ l2 ++ l3).length := k4
  have es : s_st A 0 3 = 7 := by unfold s_st; rw [k4, e7]; rfl
  refine ⟨hy, ?_, fun s hs => ?_, ⟨fun p hp => ?_, fun p q g hp => ?_⟩, fun t ht => ?_, fun z => absurd (a5 16 (by decide)) z⟩
  · refine ⟨?_, ?_, ?_, ?_, ?_, ?_, ?_, ?_, ?_, ?_, ?_, ?_, ?_, ?_⟩
    · rw [a5 0 (by decide), I 32 12 (by decide) (by decide) (by decide) (by decide) (by decide)]; exact c6_Wz 32 (by decide) _
    · rw [a5 6 (by decide), I 32 13 (by decide) (by decide) (by decide) (by decide) (by decide)]; exact c6_Wz 32 (by decide) _
    · rw [a14]; exact (congrFun (hf 32 (by decide)).1 14).trans c14
    · rw [a5 15 (by decide), I 32 15 (by decide) (by decide) (by decide) (by decide) (by decide)]; exact c6_Wz 32 (by decide) _
    · rw [a5 11 (by decide)]; exact (congrFun (hf 38 (by decide)).1 2).trans c38
    · rw [a5 16 (by decide), I0 50 (by decide) (by decide) (by decide) (by decide) (by decide) (by decide)]
    · rw [a5 17 (by decide), I0 50 (by decide) (by decide) (by decide) (by decide) (by decide) (by decide)]
    · rw [a5 18 (by decide), I0 50 (by decide) (by decide) (by decide) (by decide) (by decide) (by decide)]
    · rw [a5 19 (by decide), I0 50 (by decide) (by decide) (by decide) (by decide) (by decide) (by decide)]
    · rw [a71, I0 34 (by decide) (by decide) (by decide) (by decide) (by decide) (by decide)]
    · rw [a72, I0 35 (by decide) (by decide) (by decide) (by decide) (by decide) (by decide)]
    · funext k
      rw [a73 k, I 36 k (by decide) (by decide) (by decide) (fun z => absurd z.1 (by decide)) (fun z => absurd z.1 (by decide))]; exact c6_W36 k
    · rw [a74]; exact (hf 39 (by decide)).1.trans c39
    · rw [a79, I0 53 (by decide) (by decide) (by decide) (by decide) (by decide) (by decide)]
  · have z := c6_Ws s hs
    refine ⟨?_, ?_, fun k hk => ?_⟩
    · rw [a80 s hs, I (42 + 2 * s) 1 (by omega) (by omega) (by omega) (by omega) (by omega)]; exact z.1
    · rw [a81 s, I (42 + 2 * s) 2 (by omega) (by omega) (by omega) (by omega) (by omega)]; exact z.2
    · rw [a82, I0 (43 + 2 * s) (by omega) (by omega) (by omega) (by omega) (by omega) (by simp only [List.mem_cons, List.not_mem_nil, or_false]; omega)]
  · rw [n0] at hp; exact absurd hp (Nat.not_lt_zero _)
  · rw [n0] at hp; exact absurd hp (Nat.not_lt_zero _)
  · have e : t = 0 := by omega
    subst e
    refine ⟨62, (congrFun (hf 37 (by decide)).2 0).trans c3, ⟨Or.inl rfl, ly_k hy 62 rfl, by rw [es]; exact ly_k hy 63 rfl, ly_k hy 64 rfl, (congrFun (hf 62 (by decide)).2 0).trans c4, (congrFun (hf 62 (by decide)).2 3).trans c5⟩, ?_, ?_, fun k hk => ?_⟩
    · rw [k2]; exact (congrFun (hf 62 (by decide)).1 1).trans d1
    · rw [k3]; exact (congrFun (hf 62 (by decide)).1 2).trans d2
    · rw [es] at hk
      rw [k0 k (by omega)]; exact (congrFun (hf 63 (by decide)).1 k).trans (dk k hk)
theorem ly_R66 : ∀ q ∈ ly_R, q.1 = 65 → 66 ≤ q.2.2 := by decide +kernel
/-- the reference begins -/
theorem c6_in {σ : am_M} (hc : c6_P σ) : in_P 66 (am_nw σ 7 39) (am_nw σ 7 39) := by
  have hl : σ.1.length = 65 := by rw [hc.1]; rfl
  refine ⟨?_, fun q hq h1 h2 => absurd (ly_R66 q hq h1) (by omega), fun x _ => ⟨rfl, rfl⟩, fun k => ?_, fun x h1 h2 => absurd h1 (by omega)⟩
  · show σ.1 ++ [(7, 39)] = _
    rw [hc.1]; rfl
  · show (if 65 = σ.1.length then (0 : Int32) else _) = 0
    rw [if_pos hl.symm]
theorem c6_rf {σ : am_M} (hc : c6_P σ) : ∀ q ∈ ly_R, q.1 < 65 → (am_nw σ 7 39).2.2 q.1 q.2.1 = some q.2.2 := fun q hq h => by
  have hl : σ.1.length = 65 := by rw [hc.1]; rfl
  rw [am_nwR (by omega)]
  exact hc.2.1 q hq h
/-- both stand alike -/
def lw_I (A : am_S) (σ : am_M) : Prop := wf_A A ∧ wo_A A ∧ iv_X A σ ∧ iv_M A σ
theorem lw_i0 {A : am_S} {σ τ : am_M} (hA : ini_A A) (hc : c6_P σ) (hI : iv_M A τ) (hf : ∀ x, x < 65 → τ.2.1 x = (am_nw σ 7 39).2.1 x ∧ τ.2.2 x = (am_nw σ 7 39).2.2 x) : lw_I A τ := by
  have hl : σ.1.length = 65 := by rw [hc.1]; rfl
  refine ⟨ini_wf hA, hA.2.2.2.2.2.2.2.2.2.2.1, ini_X hA hc hI.ly (fun x hx => ⟨?_, ?_⟩), hI⟩
  · rw [(hf x hx).1]; exact funext fun k => am_nwI (by omega)
  · rw [(hf x hx).2]; exact funext fun k => am_nwR (by omega)
/-- a call of the class leaves the reference as it was -/
theorem iv_M.Ly {A : am_S} {σ τ : am_M} (h : iv_M A σ) (hy : ly_ok τ) (f : fr_L σ τ) : iv_M A τ := ⟨hy, fun a i hr => by
  have ha : 65 ≤ a ∧ a < 89 := by
    unfold am_rel at hr
    simp only [Bool.or_eq_true, Bool.and_eq_true, Nat.ble_eq] at hr
    rcases hr with z | z
    · have := Nat.eq_of_beq_eq_true z.1
      omega
    · omega
  rw [f a ha.1 ha.2]
  exact h.2 a i hr⟩
theorem iv_M.L {A B : am_S} {σ τ : am_M} (h : iv_M A σ) (hX : iv_X B τ) (f : fr_L σ τ) : iv_M A τ := h.Ly hX.ly f
/-- the step of the law -/
theorem lw_st {A B : am_S} {σ τ υ : am_M} (h : lw_I A σ) (hw : wz_A A B) (hX : iv_X B τ) (hI : iv_M B υ) (f : fr_W τ υ) : lw_I B υ := ⟨hw.1, fun i hi => (congrFun hw.2 i).trans (h.2.1 i hi), hX.W f, hI⟩
theorem lg_cmpz {x : Int64} : lg_cmp x x = 0 := by
  unfold lg_cmp
  simp
