/-! the class: copy, depthsBy -/
theorem fr_C.ac {σ τ : am_M} {a b i j n : Nat} (hb : ¬ ((b = 60 ∨ 65 ≤ b) ∧ b < 89)) (h : fr_C σ τ) : fr_C σ (am_ac τ a b i j n) := ⟨h.1, h.2.1, fun x h1 h2 => (funext fun y => if_neg (fun z => hb ⟨by omega, by omega⟩)).trans (h.2.2 x h1 h2)⟩
theorem am_acX {σ : am_M} {a b i j n x : Nat} (h : x ≠ b) : (am_ac σ a b i j n).2.1 x = σ.2.1 x := funext fun _ => if_neg (fun z => h z.1)
theorem iv_X.mv {A : am_S} {σ : am_M} {S S2 i j n : Nat} (hS : S < 4) (hS2 : S2 < 4) (hi : i + n ≤ 40) (hj : j + n ≤ 40) (h : iv_X A σ) : iv_X (s_mv A (40 * S + i) (40 * S2 + j) n) (am_ac σ (43 + 2 * S) (43 + 2 * S2) i j n) := by
  have eA : ∀ a, a ≠ 82 → s_mv A (40 * S + i) (40 * S2 + j) n a = A a := fun a ha => funext fun k => if_neg (fun z => ha z.1)
  have eX : ∀ x, x ≠ 43 + 2 * S2 → (am_ac σ (43 + 2 * S) (43 + 2 * S2) i j n).2.1 x = σ.2.1 x := fun x hx => am_acX hx
  refine h.cg rfl rfl ?_ (fun s hs => ?_) (fun g hg hk hk2 => ⟨eX g (by omega), eX (g + 1) (by omega)⟩) (fun x m hx hk hk2 => ⟨eX x (by omega), eX (x + 1) (by omega)⟩) ?_ ⟨eA _ (by decide), eA _ (by decide), eA _ (by decide), eA _ (by decide), eA _ (by decide), eA _ (by decide), eA _ (by decide)⟩ (show sN (s_mv A (40 * S + i) (40 * S2 + j) n 65 0) = sN (A 65 0) by rw [eA 65 (by decide)]) (show sN (s_mv A (40 * S + i) (40 * S2 + j) n 65 14) = sN (A 65 14) by rw [eA 65 (by decide)])
  · unfold x_F
    rw [eX 32 (by omega), eX 38 (by omega), eX 50 (by omega), eX 34 (by omega), eX 35 (by omega), eX 36 (by omega), eX 39 (by omega), eX 53 (by omega), eA 65 (by decide), eA 71 (by decide), eA 72 (by decide), eA 73 (by decide), eA 74 (by decide), eA 79 (by decide)]
    exact h.2.1
  · obtain ⟨u1, u2, u3⟩ := h.2.2.1 s hs
    rw [eX (42 + 2 * s) (by omega), eA 80 (by decide), eA 81 (by decide)]
    refine ⟨u1, u2, fun k hk => ?_⟩
    by_cases e : s = S2 ∧ j ≤ k ∧ k < j + n
    · obtain ⟨rfl, e1, e2⟩ := e
      refine (if_pos ⟨rfl, e1, e2⟩ : (am_ac σ (43 + 2 * S) (43 + 2 * s) i j n).2.1 (43 + 2 * s) k = σ.2.1 (43 + 2 * S) (i + (k - j))).trans ?_
      rw [show s_mv A (40 * S + i) (40 * s + j) n 82 (40 * s + k) = A 82 (40 * S + i + (40 * s + k - (40 * s + j))) from if_pos ⟨rfl, by omega, by omega⟩, show 40 * S + i + (40 * s + k - (40 * s + j)) = 40 * S + (i + (k - j)) by omega]
      exact (h.2.2.1 S hS).2.2 _ (by omega)
    · rw [show s_mv A (40 * S + i) (40 * S2 + j) n 82 (40 * s + k) = A 82 (40 * s + k) from if_neg (fun z => e (by omega))]
      refine (if_neg (fun z => e (by omega)) : (am_ac σ (43 + 2 * S) (43 + 2 * S2) i j n).2.1 (43 + 2 * s) k = σ.2.1 (43 + 2 * s) k).trans (u3 k hk)
  · intro z p hp
    rw [eX 52 (by omega), eX 51 (by omega), eA 77 (by decide), eA 78 (by decide)]
    rw [eA 65 (by decide)] at z hp
    exact h.2.2.2.2.2 z p hp
theorem s_rowI {A : am_S} {s m : Nat} {i n : Int32} (e : A 81 s = nI m) (hm : m ≤ 40) (h : s_row A s i n = true) : ∃ I N, I + N ≤ m ∧ i = nI I ∧ n = nI N := by
  obtain ⟨I, hI, rfl⟩ := nI_of (x := i) (fun z => by rw [s_row_i z] at h; cases h)
  obtain ⟨N, hN, rfl⟩ := nI_of (x := n) (fun z => by rw [s_row_n z] at h; cases h)
  rw [s_rowN e hm hI hN] at h
  have := of_decide_eq_true h
  exact ⟨I, N, by omega, rfl, rfl⟩
theorem s_rowJ {A : am_S} {s m N : Nat} {i : Int32} (e : A 81 s = nI m) (hm : m ≤ 40) (hN : N ≤ 40) (h : s_row A s i (nI N) = true) : ∃ I, I + N ≤ m ∧ i = nI I := by
  obtain ⟨I, hI, rfl⟩ := nI_of (x := i) (fun z => by rw [s_row_i z] at h; cases h)
  rw [s_rowN e hm hI (by omega)] at h
  have := of_decide_eq_true h
  exact ⟨I, by omega, rfl⟩
set_option maxHeartbeats 400000 in
set_option maxRecDepth 100000 in
theorem c_X6_copy (G : am_G) (D : Nat) (A : am_S) (σ : am_M) (hA : wf_A A) (hX : iv_X A σ) (s i o j n : Int32) : am_Mt G (D + 2) mX6_copy [.ref 32, .int s, .int i, .int o, .int j, .int n] σ 0 0 (am_qD (sp_copy A s i o j n) σ) := by
  have b7 := wf_np7 hA
  have b8 := wf_nq8 hA
  have b6 := wf_nt6 hA
  have b61 := wf_nt1 hA
  have b160 := wf_tp160 hA
  have brl := wf_rlt hA
  refine am_of moX6_copy (Nat.le_of_ble_eq_true rfl) ?_
  show am_Ev G mX6_copy (am_R (D + 2) 0 0) 0 0 (am_qD (sp_copy A s i o j n) σ) 0 [(0, .ref 32), (1, .int s), (2, .int i), (3, .int o), (4, .int j), (5, .int n)] [] σ 0 0
  refine ev_aload_n dX6_copy_0 rfl rfl ?_
  refine ev_iload_n dX6_copy_1 rfl rfl ?_
  refine ev_callV (as := [.int s]) (st := []) dX6_copy_2 mfX6_sheetAt lk_X6_225 (ly_k hX.ly 32 rfl) (by decide) rfl (c_X6_sheetAt G (D + 1) A σ hX s) rfl rfl (Nat.le_of_ble_eq_true rfl) (am_hR (by omega) (by decide)) ⟨Nat.le_refl _, Nat.le_refl _⟩ ?_
  rintro _ _ (⟨S, rfl, hS, rfl, rfl⟩ | ⟨hnS, rfl, rfl⟩)
  · skip
    refine ev_astore (lv' := [(0, .ref 32), (1, .int (nI S)), (2, .int i), (3, .int o), (4, .int j), (5, .int n), (6, .ref (42 + 2 * S))]) dX6_copy_5 (by decide) rfl ?_
    refine ev_aload_n dX6_copy_7 rfl rfl ?_
    refine ev_iload_n dX6_copy_8 rfl rfl ?_
    refine ev_callV (as := [.int o]) (st := []) dX6_copy_9 mfX6_sheetAt lk_X6_225 (ly_k hX.ly 32 rfl) (by decide) rfl (c_X6_sheetAt G (D + 1) A σ hX o) rfl rfl (Nat.le_of_ble_eq_true rfl) (am_hR (by omega) (by decide)) ⟨Nat.le_refl _, Nat.le_refl _⟩ ?_
    rintro _ _ (⟨S2, rfl, hS2, rfl, rfl⟩ | ⟨hnS2, rfl, rfl⟩)
    · skip
      refine ev_astore (lv' := [(0, .ref 32), (1, .int (nI S)), (2, .int i), (3, .int (nI S2)), (4, .int j), (5, .int n), (6, .ref (42 + 2 * S)), (7, .ref (42 + 2 * S2))]) dX6_copy_12 (by decide) rfl ?_
      refine ev_aload dX6_copy_14 rfl ?_
      refine ev_ifnullR dX6_copy_16 ?_
      refine ev_aload dX6_copy_19 rfl ?_
      refine ev_ifnonnullR (tgt := 27) dX6_copy_21 (by decide) ?_
      refine ev_aload dX6_copy_27 rfl ?_
      refine ev_callV (as := []) (st := []) dX6_copy_29 mfX3_isMissing lk_X6_268 (ly_s hX.ly hS).2.1 (by decide) rfl (c_X3_isMissing G (D + 1) A σ hX S hS) rfl rfl (Nat.le_of_ble_eq_true rfl) (am_hR (by omega) (by decide)) ⟨Nat.le_refl _, Nat.le_refl _⟩ ?_
      rintro _ _ (⟨hm1, rfl, rfl⟩ | ⟨hm1, rfl, rfl⟩)
      · skip
        refine ev_if_ne (tgt := 43) dX6_copy_32 (by decide) (fun _ => ?_) (fun c => absurd c (by decide))
        refine ev_bipush (v := (-11)) dX6_copy_43 (by decide) ?_
        refine ev_reti dX6_copy_45 rfl (Nat.zero_le _) (Nat.zero_le _) ?_
        refine am_qDi (B := A) ?_ hX fr_C.rf
        rw [sp_cpN hS hS2]
        exact if_pos (Or.inl hm1)
      · skip
        refine ev_if_ne (tgt := 43) dX6_copy_32 (by decide) (fun c => absurd (by decide) c) (fun _ => ?_)
        refine ev_aload dX6_copy_35 rfl ?_
        refine ev_callV (as := []) (st := []) dX6_copy_37 mfX3_isMissing lk_X6_268 (ly_s hX.ly hS2).2.1 (by decide) rfl (c_X3_isMissing G (D + 1) A σ hX S2 hS2) rfl rfl (Nat.le_of_ble_eq_true rfl) (am_hR (by omega) (by decide)) ⟨Nat.le_refl _, Nat.le_refl _⟩ ?_
        rintro _ _ (⟨hm2, rfl, rfl⟩ | ⟨hm2, rfl, rfl⟩)
        · skip
          refine ev_if_eq (tgt := 46) dX6_copy_40 (by decide) (fun c => absurd c (by decide)) (fun _ => ?_)
          refine ev_bipush (v := (-11)) dX6_copy_43 (by decide) ?_
          refine ev_reti dX6_copy_45 rfl (Nat.zero_le _) (Nat.zero_le _) ?_
          refine am_qDi (B := A) ?_ hX fr_C.rf
          rw [sp_cpN hS hS2]
          exact if_pos (Or.inr hm2)
        · skip
          refine ev_if_eq (tgt := 46) dX6_copy_40 (by decide) (fun _ => ?_) (fun c => absurd (by decide) c)
          refine ev_aload dX6_copy_46 rfl ?_
          refine ev_getI (v := A 80 S) dX6_copy_48 fl_X6_275 (ly_s hX.ly hS).2.1 (hX.s1 hS) ?_
          refine ev_aload dX6_copy_51 rfl ?_
          refine ev_getI (v := A 80 S2) dX6_copy_53 fl_X6_275 (ly_s hX.ly hS2).2.1 (hX.s1 hS2) ?_
          refine ev_icmp_eq (tgt := 62) dX6_copy_56 (by decide) (fun c3 => ?_) (fun c3 => ?_)
          · skip
            refine ev_aload dX6_copy_62 rfl ?_
            refine ev_iload_n dX6_copy_64 rfl rfl ?_
            refine ev_iload dX6_copy_65 rfl ?_
            refine ev_callV (as := [.int i, .int n]) (st := []) dX6_copy_67 mfX3_hasRow lk_X6_278 (ly_s hX.ly hS).2.1 (by decide) rfl (c_X3_hasRow G (D + 1) A σ hX S hS i n) rfl rfl (Nat.le_of_ble_eq_true rfl) (am_hR (by omega) (by decide)) ⟨Nat.le_refl _, Nat.le_refl _⟩ ?_
            rintro _ _ (⟨h4, rfl, rfl⟩ | ⟨h4, rfl, rfl⟩)
            · skip
              refine ev_if_eq (tgt := 85) dX6_copy_70 (by decide) (fun c => absurd c (by decide)) (fun _ => ?_)
              refine ev_aload dX6_copy_73 rfl ?_
              refine ev_iload dX6_copy_75 rfl ?_
              refine ev_iload dX6_copy_77 rfl ?_
              refine ev_callV (as := [.int j, .int n]) (st := []) dX6_copy_79 mfX3_hasRow lk_X6_278 (ly_s hX.ly hS2).2.1 (by decide) rfl (c_X3_hasRow G (D + 1) A σ hX S2 hS2 j n) rfl rfl (Nat.le_of_ble_eq_true rfl) (am_hR (by omega) (by decide)) ⟨Nat.le_refl _, Nat.le_refl _⟩ ?_
              rintro _ _ (⟨h5, rfl, rfl⟩ | ⟨h5, rfl, rfl⟩)
              · skip
                refine ev_if_ne (tgt := 88) dX6_copy_82 (by decide) (fun _ => ?_) (fun c => absurd c (by decide))
                have z1 := ws_z hA hS
                have z2 := ws_z hA hS2
                obtain ⟨I, N, hIN, rfl, rfl⟩ := s_rowI z1.1 z1.2 h4
                obtain ⟨J, hJN, rfl⟩ := s_rowJ z2.1 z2.2 (by omega) h5
                refine ev_aload dX6_copy_88 rfl ?_
                refine ev_getR (b := (43 + 2 * S)) dX6_copy_90 fl_X6_282 (ly_s hX.ly hS).2.1 (ly_s hX.ly hS).2.2.1 ?_
                refine ev_iload_n dX6_copy_93 rfl rfl ?_
                refine ev_aload dX6_copy_94 rfl ?_
                refine ev_getR (b := (43 + 2 * S2)) dX6_copy_96 fl_X6_282 (ly_s hX.ly hS2).2.1 (ly_s hX.ly hS2).2.2.1 ?_
                refine ev_iload dX6_copy_99 rfl ?_
                refine ev_iload dX6_copy_101 rfl ?_
                refine ev_acpy (i := I) (j := J) (c := N) dX6_copy_103 lk_X6_253 (ly_s hX.ly hS).2.2.2 (ly_s hX.ly hS2).2.2.2 (by omega) (by omega) (by decide) (by decide) (Nat.le_of_ble_eq_true rfl) ⟨Nat.le_add_left _ _, by simp only [am_R]; omega⟩ ?_
                refine ev_iload dX6_copy_106 rfl ?_
                refine ev_reti dX6_copy_108 rfl (Nat.zero_le _) (Nat.zero_le _) ?_
                refine am_qDi (B := (s_mv A (40 * S + I) (40 * S2 + J) N)) ?_ (iv_X.mv hS hS2 (i := I) (j := J) (n := N) (by omega) (by omega) hX) (fr_C.ac (by omega) fr_C.rf)
                rw [sp_cpN hS hS2]
                rw [if_neg (fun z => z.elim hm1 hm2)]
                rw [if_neg (fun z => z c3)]
                rw [h4, h5, if_pos (show (true && true) = true from rfl), sN_n (show I < 2 ^ 31 by omega), sN_n (show J < 2 ^ 31 by omega), sN_n (show N < 2 ^ 31 by omega)]
              · skip
                refine ev_if_ne (tgt := 88) dX6_copy_82 (by decide) (fun c => absurd (by decide) c) (fun _ => ?_)
                refine ev_bipush (v := (-12)) dX6_copy_85 (by decide) ?_
                refine ev_reti dX6_copy_87 rfl (Nat.zero_le _) (Nat.zero_le _) ?_
                refine am_qDi (B := A) ?_ hX fr_C.rf
                rw [sp_cpN hS hS2]
                rw [if_neg (fun z => z.elim hm1 hm2)]
                rw [if_neg (fun z => z c3)]
                exact if_neg (fun z => h5 (by rw [Bool.and_eq_true] at z; exact z.2))
            · skip
              refine ev_if_eq (tgt := 85) dX6_copy_70 (by decide) (fun _ => ?_) (fun c => absurd (by decide) c)
              refine ev_bipush (v := (-12)) dX6_copy_85 (by decide) ?_
              refine ev_reti dX6_copy_87 rfl (Nat.zero_le _) (Nat.zero_le _) ?_
              refine am_qDi (B := A) ?_ hX fr_C.rf
              rw [sp_cpN hS hS2]
              rw [if_neg (fun z => z.elim hm1 hm2)]
              rw [if_neg (fun z => z c3)]
              exact if_neg (fun z => h4 (by rw [Bool.and_eq_true] at z; exact z.1))
          · skip
            refine ev_bipush (v := (-13)) dX6_copy_59 (by decide) ?_
            refine ev_reti dX6_copy_61 rfl (Nat.zero_le _) (Nat.zero_le _) ?_
            refine am_qDi (B := A) ?_ hX fr_C.rf
            rw [sp_cpN hS hS2]
            rw [if_neg (fun z => z.elim hm1 hm2)]
            exact if_pos c3
    · skip
      refine ev_astoreN (lv' := [(0, .ref 32), (1, .int (nI S)), (2, .int i), (3, .int o), (4, .int j), (5, .int n), (6, .ref (42 + 2 * S)), (7, .null)]) dX6_copy_12 (by decide) rfl ?_
      refine ev_aload dX6_copy_14 rfl ?_
      refine ev_ifnullR dX6_copy_16 ?_
      refine ev_aloadN dX6_copy_19 rfl ?_
      refine ev_ifnonnullN dX6_copy_21 ?_
      refine ev_bipush (v := (-2)) dX6_copy_24 (by decide) ?_
      refine ev_reti dX6_copy_26 rfl (Nat.zero_le _) (Nat.zero_le _) ?_
      refine am_qDi (B := A) ?_ hX fr_C.rf
      have hz := am_inF (n := 4) (by decide) hnS2
      simp [sp_copy, hz]
  · skip
    refine ev_astoreN (lv' := [(0, .ref 32), (1, .int s), (2, .int i), (3, .int o), (4, .int j), (5, .int n), (6, .null)]) dX6_copy_5 (by decide) rfl ?_
    refine ev_aload_n dX6_copy_7 rfl rfl ?_
    refine ev_iload_n dX6_copy_8 rfl rfl ?_
    refine ev_callV (as := [.int o]) (st := []) dX6_copy_9 mfX6_sheetAt lk_X6_225 (ly_k hX.ly 32 rfl) (by decide) rfl (c_X6_sheetAt G (D + 1) A σ hX o) rfl rfl (Nat.le_of_ble_eq_true rfl) (am_hR (by omega) (by decide)) ⟨Nat.le_refl _, Nat.le_refl _⟩ ?_
    rintro _ _ (⟨S2, rfl, hS2, rfl, rfl⟩ | ⟨hnS2, rfl, rfl⟩)
    · skip
      refine ev_astore (lv' := [(0, .ref 32), (1, .int s), (2, .int i), (3, .int (nI S2)), (4, .int j), (5, .int n), (6, .null), (7, .ref (42 + 2 * S2))]) dX6_copy_12 (by decide) rfl ?_
      refine ev_aloadN dX6_copy_14 rfl ?_
      refine ev_ifnullN (tgt := 24) dX6_copy_16 (by decide) ?_
      refine ev_bipush (v := (-2)) dX6_copy_24 (by decide) ?_
      refine ev_reti dX6_copy_26 rfl (Nat.zero_le _) (Nat.zero_le _) ?_
      refine am_qDi (B := A) ?_ hX fr_C.rf
      have hz := am_inF (n := 4) (by decide) hnS
      simp [sp_copy, hz]
    · skip
      refine ev_astoreN (lv' := [(0, .ref 32), (1, .int s), (2, .int i), (3, .int o), (4, .int j), (5, .int n), (6, .null), (7, .null)]) dX6_copy_12 (by decide) rfl ?_
      refine ev_aloadN dX6_copy_14 rfl ?_
      refine ev_ifnullN (tgt := 24) dX6_copy_16 (by decide) ?_
      refine ev_bipush (v := (-2)) dX6_copy_24 (by decide) ?_
      refine ev_reti dX6_copy_26 rfl (Nat.zero_le _) (Nat.zero_le _) ?_
      refine am_qDi (B := A) ?_ hX fr_C.rf
      have hz := am_inF (n := 4) (by decide) hnS2
      simp [sp_copy, hz]

set_option maxHeartbeats 400000 in
set_option maxRecDepth 100000 in
theorem c_X6_depthsBy (G : am_G) (D : Nat) (A : am_S) (σ : am_M) (hA : wf_A A) (hX : iv_X A σ) (s b f n : Int32) : am_Mt G (D + 4) mX6_depthsBy [.ref 32, .int s, .int b, .int f, .int n] σ 0 0 (am_qD (sp_depthsBy A s b f n) σ) := by
  have b7 := wf_np7 hA
  have b8 := wf_nq8 hA
  have b6 := wf_nt6 hA
  have b61 := wf_nt1 hA
  have b160 := wf_tp160 hA
  have brl := wf_rlt hA
  refine am_of moX6_depthsBy (Nat.le_of_ble_eq_true rfl) ?_
  show am_Ev G mX6_depthsBy (am_R (D + 4) 0 0) 0 0 (am_qD (sp_depthsBy A s b f n) σ) 0 [(0, .ref 32), (1, .int s), (2, .int b), (3, .int f), (4, .int n)] [] σ 0 0
  refine ev_aload_n dX6_depthsBy_0 rfl rfl ?_
  refine ev_iload_n dX6_depthsBy_1 rfl rfl ?_
  refine ev_callV (as := [.int s]) (st := []) dX6_depthsBy_2 mfX6_sheetAt lk_X6_225 (ly_k hX.ly 32 rfl) (by decide) rfl (c_X6_sheetAt G (D + 3) A σ hX s) rfl rfl (Nat.le_of_ble_eq_true rfl) (am_hR (by omega) (by decide)) ⟨Nat.le_refl _, Nat.le_refl _⟩ ?_
  rintro _ _ (⟨S, rfl, hS, rfl, rfl⟩ | ⟨hn1, rfl, rfl⟩)
  · skip
    refine ev_astore (lv' := [(0, .ref 32), (1, .int (nI S)), (2, .int b), (3, .int f), (4, .int n), (5, .ref (42 + 2 * S))]) dX6_depthsBy_5 (by decide) rfl ?_
    refine ev_aload dX6_depthsBy_7 rfl ?_
    refine ev_ifnullR dX6_depthsBy_9 ?_
    refine ev_iload_n dX6_depthsBy_12 rfl rfl ?_
    refine ev_if_lt (tgt := 33) dX6_depthsBy_13 (by decide) (fun c2 => ?_) (fun c2 => ?_)
    · skip
      refine ev_bipush (v := (-2)) dX6_depthsBy_33 (by decide) ?_
      refine ev_reti dX6_depthsBy_35 rfl (Nat.zero_le _) (Nat.zero_le _) ?_
      refine am_qDi (B := A) ?_ hX fr_C.rf
      have hz : am_in b 3 = false := am_inF (by decide) (am_rgn (by decide) c2)
      simp [sp_depthsBy, hz]
    · skip
      refine ev_iload_n dX6_depthsBy_16 rfl rfl ?_
      refine ev_iconst (v := 2) dX6_depthsBy_17 (by decide) ?_
      refine ev_icmp_gt (tgt := 33) dX6_depthsBy_18 (by decide) (fun c3 => ?_) (fun c3 => ?_)
      · skip
        refine ev_bipush (v := (-2)) dX6_depthsBy_33 (by decide) ?_
        refine ev_reti dX6_depthsBy_35 rfl (Nat.zero_le _) (Nat.zero_le _) ?_
        refine am_qDi (B := A) ?_ hX fr_C.rf
        have hz : am_in b 3 = false := am_inF (by decide) (am_rgm3 (c := 2) (by decide) (by decide) (Int32.not_le.mpr c3))
        simp [sp_depthsBy, hz]
      · skip
        refine ev_iload dX6_depthsBy_21 rfl ?_
        refine ev_if_lt (tgt := 33) dX6_depthsBy_23 (by decide) (fun c4 => ?_) (fun c4 => ?_)
        · skip
          refine ev_bipush (v := (-2)) dX6_depthsBy_33 (by decide) ?_
          refine ev_reti dX6_depthsBy_35 rfl (Nat.zero_le _) (Nat.zero_le _) ?_
          refine am_qDi (B := A) ?_ hX fr_C.rf
          have hz : am_in n 13 = false := am_inF (by decide) (am_rgn (by decide) c4)
          simp [sp_depthsBy, hz]
        · skip
          refine ev_iload dX6_depthsBy_26 rfl ?_
          refine ev_bipush (v := 12) dX6_depthsBy_28 (by decide) ?_
          refine ev_icmp_le (tgt := 36) dX6_depthsBy_30 (by decide) (fun c5 => ?_) (fun c5 => ?_)
          · skip
            refine ev_aload dX6_depthsBy_36 rfl ?_
            refine ev_callV (as := []) (st := []) dX6_depthsBy_38 mfX3_isMissing lk_X6_268 (ly_s hX.ly hS).2.1 (by decide) rfl (c_X3_isMissing G (D + 3) A σ hX S hS) rfl rfl (Nat.le_of_ble_eq_true rfl) (am_hR (by omega) (by decide)) ⟨Nat.le_refl _, Nat.le_refl _⟩ ?_
            rintro _ _ (⟨hm6, rfl, rfl⟩ | ⟨hm6, rfl, rfl⟩)
            · skip
              refine ev_if_eq (tgt := 47) dX6_depthsBy_41 (by decide) (fun c => absurd c (by decide)) (fun _ => ?_)
              refine ev_bipush (v := (-11)) dX6_depthsBy_44 (by decide) ?_
              refine ev_reti dX6_depthsBy_46 rfl (Nat.zero_le _) (Nat.zero_le _) ?_
              obtain ⟨N, hN, rfl⟩ : am_rg n 13 := am_rg3 (c := 12) (by decide) c4 c5
              have hb : am_in b 3 = true := (am_inR (by decide)).mpr (am_rg3 (c := 2) (by decide) c2 (Int32.not_lt.mp c3))
              have z1 := ws_z hA hS
              refine am_qDi (B := A) ?_ hX fr_C.rf
              rw [sp_dbN hS hN hb z1.1 z1.2, if_pos hm6]
            · skip
              refine ev_if_eq (tgt := 47) dX6_depthsBy_41 (by decide) (fun _ => ?_) (fun c => absurd (by decide) c)
              refine ev_aload dX6_depthsBy_47 rfl ?_
              refine ev_getI (v := A 80 S) dX6_depthsBy_49 fl_X6_275 (ly_s hX.ly hS).2.1 (hX.s1 hS) ?_
              refine ev_iload_n dX6_depthsBy_52 rfl rfl ?_
              refine ev_icmp_eq (tgt := 59) dX6_depthsBy_53 (by decide) (fun c7 => ?_) (fun c7 => ?_)
              · skip
                obtain ⟨N, hN, rfl⟩ : am_rg n 13 := am_rg3 (c := 12) (by decide) c4 c5
                have hb : am_in b 3 = true := (am_inR (by decide)).mpr (am_rg3 (c := 2) (by decide) c2 (Int32.not_lt.mp c3))
                have z1 := ws_z hA hS
                by_cases hneg : f < 0
                · skip
                  refine ev_iconst (v := 0) dX6_depthsBy_59 (by decide) ?_
                  refine ev_istore (lv' := [(0, .ref 32), (1, .int (nI S)), (2, .int b), (3, .int f), (4, .int (nI N)), (5, .ref (42 + 2 * S)), (6, .int 0)]) dX6_depthsBy_60 (by decide) rfl ?_
                  refine ev_iload_n dX6_depthsBy_62 rfl rfl ?_
                  refine ev_istore (lv' := [(0, .ref 32), (1, .int (nI S)), (2, .int b), (3, .int f), (4, .int (nI N)), (5, .ref (42 + 2 * S)), (6, .int 0), (7, .int f)]) dX6_depthsBy_63 (by decide) rfl ?_
                  refine ev_iconst (v := 0) dX6_depthsBy_65 (by decide) ?_
                  refine ev_istore (lv' := [(0, .ref 32), (1, .int (nI S)), (2, .int b), (3, .int f), (4, .int (nI N)), (5, .ref (42 + 2 * S)), (6, .int 0), (7, .int f), (8, .int 0)]) dX6_depthsBy_66 (by decide) rfl ?_
                  refine ev_iload dX6_depthsBy_68 rfl ?_
                  refine ev_iload dX6_depthsBy_70 rfl ?_
                  refine ev_icmp_ge (tgt := 133) dX6_depthsBy_72 (by decide) (fun c8 => ?_) (fun c8 => ?_)
                  · skip
                    have c8n : N ≤ 0 := (nI_leI (a := N) (b := 0) (by omega) (by omega)).mp c8
                    refine ev_iload dX6_depthsBy_133 rfl ?_
                    refine ev_reti dX6_depthsBy_135 rfl (Nat.zero_le _) (Nat.zero_le _) ?_
                    refine am_qDi (B := A) ?_ hX fr_C.rf
                    have e : N = 0 := by omega
                    subst e
                    rw [sp_dbN hS hN hb z1.1 z1.2, if_neg hm6, if_neg (fun z => z c7), if_pos (show nI 0 = 0 from rfl)]
                  · skip
                    have c8n : ¬ N ≤ 0 := fun zz => c8 ((nI_leI (a := N) (b := 0) (by omega) (by omega)).mpr zz)
                    refine ev_aload dX6_depthsBy_75 rfl ?_
                    refine ev_iload dX6_depthsBy_77 rfl ?_
                    refine ev_iconst (v := 3) dX6_depthsBy_79 (by decide) ?_
                    refine ev_callV (as := [.int f, .int 3]) (st := []) dX6_depthsBy_80 mfX3_hasRow lk_X6_278 (ly_s hX.ly hS).2.1 (by decide) rfl (c_X3_hasRow G (D + 3) A σ hX S hS f 3) rfl rfl (Nat.le_of_ble_eq_true rfl) (am_hR (by omega) (by decide)) ⟨Nat.le_refl _, Nat.le_refl _⟩ ?_
                    rintro _ _ (⟨hr, rfl, rfl⟩ | ⟨hr, rfl, rfl⟩)
                    · skip
                      rw [s_row_i hneg] at hr; cases hr
                    · skip
                      refine ev_if_ne (tgt := 89) dX6_depthsBy_83 (by decide) (fun c => absurd (by decide) c) (fun _ => ?_)
                      refine ev_bipush (v := (-12)) dX6_depthsBy_86 (by decide) ?_
                      refine ev_reti dX6_depthsBy_88 rfl (Nat.zero_le _) (Nat.zero_le _) ?_
                      refine am_qDi (B := A) ?_ hX fr_C.rf
                      rw [sp_dbN hS hN hb z1.1 z1.2, if_neg hm6, if_neg (fun z => z c7), if_neg (fun z => absurd ((am_n0 (by omega)).mp z) (by omega)), if_pos hneg]
                · obtain ⟨F, hF, rfl⟩ := nI_of hneg
                  refine ev_iconst (v := 0) dX6_depthsBy_59 (by decide) ?_
                  refine ev_istore (lv' := [(0, .ref 32), (1, .int (nI S)), (2, .int b), (3, .int (nI F)), (4, .int (nI N)), (5, .ref (42 + 2 * S)), (6, .int 0)]) dX6_depthsBy_60 (by decide) rfl ?_
                  refine ev_iload_n dX6_depthsBy_62 rfl rfl ?_
                  refine ev_istore (lv' := [(0, .ref 32), (1, .int (nI S)), (2, .int b), (3, .int (nI F)), (4, .int (nI N)), (5, .ref (42 + 2 * S)), (6, .int 0), (7, .int (nI F))]) dX6_depthsBy_63 (by decide) rfl ?_
                  refine ev_iconst (v := 0) dX6_depthsBy_65 (by decide) ?_
                  refine ev_istore (lv' := [(0, .ref 32), (1, .int (nI S)), (2, .int b), (3, .int (nI F)), (4, .int (nI N)), (5, .ref (42 + 2 * S)), (6, .int 0), (7, .int (nI F)), (8, .int 0)]) dX6_depthsBy_66 (by decide) rfl ?_
                  have lp : ∀ (f : Nat) (i : Nat) (τ : am_M), (i ≤ N) → (i = 0 ∨ F + 3 * i ≤ sN (A 81 S)) → (iv_X (s_ta A S F i) τ) → (fr_C σ τ) → N - i < f → am_Ev G mX6_depthsBy (am_R (D + 4) 0 0) 0 0 (am_qD (sp_depthsBy A (nI S) b (nI F) (nI N)) σ) 68 [(0, .ref 32), (1, .int (nI S)), (2, .int b), (3, .int (nI F)), (4, .int (nI N)), (5, .ref (42 + 2 * S)), (6, .int (nI (s_tc A S F i))), (7, .int (nI (F + 3 * i))), (8, .int (nI i))] [] τ 0 0 := by
                    intro f
                    induction f with
                    | zero => intro i τ hi h3i hXt hFt hf; exact absurd hf (Nat.not_lt_zero _)
                    | succ f ih =>
                      intro i τ hi h3i hXt hFt hf
                      refine ev_iload dX6_depthsBy_68 rfl ?_
                      refine ev_iload dX6_depthsBy_70 rfl ?_
                      refine ev_icmp_ge (tgt := 133) dX6_depthsBy_72 (by decide) (fun c9 => ?_) (fun c9 => ?_)
                      · skip
                        have c9n : N ≤ i := (nI_leI (a := N) (b := i) (by omega) (by omega)).mp c9
                        refine ev_iload dX6_depthsBy_133 rfl ?_
                        refine ev_reti dX6_depthsBy_135 rfl (Nat.zero_le _) (Nat.zero_le _) ?_
                        have e : i = N := by omega
                        subst e
                        have et : s_ti (sN (A 81 S)) F i = i := s_ti_n h3i
                        refine am_qDi (B := (s_ta A S F i)) ?_ hXt hFt
                        by_cases h0 : i = 0
                        · subst h0; rw [sp_dbN hS hN hb z1.1 z1.2, if_neg hm6, if_neg (fun z => z c7), if_pos (show nI 0 = 0 from rfl)]; rfl
                        · rw [sp_dbN hS hN hb z1.1 z1.2, if_neg hm6, if_neg (fun z => z c7), if_neg (fun z => absurd ((am_n0 (by omega)).mp z) (by omega)), if_neg hneg, sN_n hF, et, if_pos rfl]
                      · skip
                        have c9n : ¬ N ≤ i := fun zz => c9 ((nI_leI (a := N) (b := i) (by omega) (by omega)).mpr zz)
                        refine ev_aload dX6_depthsBy_75 rfl ?_
                        refine ev_iload dX6_depthsBy_77 rfl ?_
                        refine ev_iconst (v := 3) dX6_depthsBy_79 (by decide) ?_
                        have e81 : (s_ta A S F i) 81 S = nI (sN (A 81 S)) := (s_ta_x (by decide)).trans z1.1
                        refine ev_callV (as := [.int (nI (F + 3 * i)), .int 3]) (st := []) dX6_depthsBy_80 mfX3_hasRow lk_X6_278 (ly_s hXt.ly hS).2.1 (by decide) rfl (c_X3_hasRow G (D + 3) (s_ta A S F i) τ hXt S hS (nI (F + 3 * i)) (nI 3)) rfl rfl (Nat.le_of_ble_eq_true rfl) (am_hR (by omega) (by decide)) ⟨Nat.le_refl _, Nat.le_refl _⟩ ?_
                        rintro _ _ (⟨hr, rfl, rfl⟩ | ⟨hr, rfl, rfl⟩)
                        · skip
                          rw [s_rowN e81 z1.2 (by omega) (by decide)] at hr
                          have hr3 := of_decide_eq_true hr
                          have e81b : sN ((s_ta A S F i) 81 S) = sN (A 81 S) := congrArg sN (s_ta_x (by decide))
                          refine ev_if_ne (tgt := 89) dX6_depthsBy_83 (by decide) (fun _ => ?_) (fun c => absurd c (by decide))
                          refine ev_aload_n dX6_depthsBy_89 rfl rfl ?_
                          refine ev_aload dX6_depthsBy_90 rfl ?_
                          refine ev_iload dX6_depthsBy_92 rfl ?_
                          refine ev_callV (as := [.int (nI (F + 3 * i))]) (st := [.ref 32]) dX6_depthsBy_94 mfX3_get lk_X6_285 (ly_s hXt.ly hS).2.1 (by decide) rfl (by have hh := c_X3_get G (D + 2) (s_ta A S F i) τ (wf_ta hA i) hXt S hS (F + 3 * i) (by rw [e81b]; omega); rw [s_ta_x (by decide)] at hh; exact hh) rfl rfl (Nat.le_of_ble_eq_true rfl) (am_hR (by omega) (by decide)) ⟨Nat.le_refl _, Nat.le_refl _⟩ ?_
                          rintro _ _ ⟨rfl, rfl⟩
                          refine ev_aload dX6_depthsBy_97 rfl ?_
                          refine ev_iload dX6_depthsBy_99 rfl ?_
                          refine ev_iconst (v := 1) dX6_depthsBy_101 (by decide) ?_
                          refine ev_iadd (v := nI (F + 3 * i + 1)) dX6_depthsBy_102 (nI_1 _) ?_
                          refine ev_callV (as := [.int (nI (F + 3 * i + 1))]) (st := [.int (A 82 (40 * S + (F + 3 * i))), .ref 32]) dX6_depthsBy_103 mfX3_get lk_X6_285 (ly_s hXt.ly hS).2.1 (by decide) rfl (by have hh := c_X3_get G (D + 2) (s_ta A S F i) τ (wf_ta hA i) hXt S hS (F + 3 * i + 1) (by rw [e81b]; omega); rw [s_ta_x (by decide)] at hh; exact hh) rfl rfl (Nat.le_of_ble_eq_true rfl) (am_hR (by omega) (by decide)) ⟨Nat.le_refl _, Nat.le_refl _⟩ ?_
                          rintro _ _ ⟨rfl, rfl⟩
                          refine ev_aload dX6_depthsBy_106 rfl ?_
                          refine ev_iload dX6_depthsBy_108 rfl ?_
                          refine ev_iconst (v := 2) dX6_depthsBy_110 (by decide) ?_
                          refine ev_iadd (v := nI (F + 3 * i + 2)) dX6_depthsBy_111 (nI_add (F + 3 * i) 2) ?_
                          refine ev_callV (as := [.int (nI (F + 3 * i + 2))]) (st := [.int (A 82 (40 * S + (F + 3 * i) + 1)), .int (A 82 (40 * S + (F + 3 * i))), .ref 32]) dX6_depthsBy_112 mfX3_get lk_X6_285 (ly_s hXt.ly hS).2.1 (by decide) rfl (by have hh := c_X3_get G (D + 2) (s_ta A S F i) τ (wf_ta hA i) hXt S hS (F + 3 * i + 2) (by rw [e81b]; omega); rw [s_ta_x (by decide)] at hh; exact hh) rfl rfl (Nat.le_of_ble_eq_true rfl) (am_hR (by omega) (by decide)) ⟨Nat.le_refl _, Nat.le_refl _⟩ ?_
                          rintro _ _ ⟨rfl, rfl⟩
                          refine ev_callV (as := [.int (A 82 (40 * S + (F + 3 * i))), .int (A 82 (40 * S + (F + 3 * i) + 1)), .int (A 82 (40 * S + (F + 3 * i) + 2))]) (st := []) dX6_depthsBy_115 mfX6_learn lk_X6_288 (ly_k hXt.ly 32 rfl) (by decide) rfl (show am_Mt G _ mX6_learn _ τ 0 0 (am_qD (s_te A S F i) τ) from c_X6_learn G D (s_ta A S F i) τ (wf_ta hA i) hXt (A 82 (40 * S + (F + 3 * i))) (A 82 (40 * S + (F + 3 * i) + 1)) (A 82 (40 * S + (F + 3 * i) + 2))) rfl rfl (Nat.le_of_ble_eq_true rfl) (am_hR (by omega) (by decide)) ⟨Nat.le_refl _, Nat.le_refl _⟩ ?_
                          rintro _ σ10 ⟨rfl, hX10, hF10⟩
                          refine ev_if_lt (tgt := 124) dX6_depthsBy_118 (by decide) (fun c11 => ?_) (fun c11 => ?_)
                          · skip
                            rw [show nI (s_tc A S F i) = nI (s_tc A S F (i + 1)) from (Int32.add_zero _).symm.trans (s_tcN c11)]
                            change am_Ev G mX6_depthsBy (am_R (D + 4) 0 0) 0 0 (am_qD (sp_depthsBy A (nI S) b (nI F) (nI N)) σ) 124 [(0, .ref 32), (1, .int (nI S)), (2, .int b), (3, .int (nI F)), (4, .int (nI N)), (5, .ref (42 + 2 * S)), (6, .int (nI (s_tc A S F (i + 1)))), (7, .int (nI (F + 3 * i))), (8, .int (nI i))] [] σ10 0 0
                            refine ev_iinc (lv' := [(0, .ref 32), (1, .int (nI S)), (2, .int b), (3, .int (nI F)), (4, .int (nI N)), (5, .ref (42 + 2 * S)), (6, .int (nI (s_tc A S F (i + 1)))), (7, .int (nI (F + 3 * (i + 1)))), (8, .int (nI i))]) (v := nI (F + 3 * (i + 1))) dX6_depthsBy_124 rfl (by have z : nI (F + 3 * i) + nI 3 = nI (F + 3 * i + 3) := nI_add _ _; exact z) (by decide) rfl ?_
                            refine ev_iinc (lv' := [(0, .ref 32), (1, .int (nI S)), (2, .int b), (3, .int (nI F)), (4, .int (nI N)), (5, .ref (42 + 2 * S)), (6, .int (nI (s_tc A S F (i + 1)))), (7, .int (nI (F + 3 * (i + 1)))), (8, .int (nI (i + 1)))]) (v := nI (i + 1)) dX6_depthsBy_127 rfl (nI_1 _) (by decide) rfl ?_
                            refine ev_goto (tgt := 68) dX6_depthsBy_130 (by decide) ?_
                            exact ih (i + 1) σ10 (by omega) (Or.inr (by omega)) hX10 (fr_C.tr hFt hF10) (by omega)
                          · skip
                            refine ev_iinc (lv' := [(0, .ref 32), (1, .int (nI S)), (2, .int b), (3, .int (nI F)), (4, .int (nI N)), (5, .ref (42 + 2 * S)), (6, .int (nI (s_tc A S F i + 1))), (7, .int (nI (F + 3 * i))), (8, .int (nI i))]) (v := nI (s_tc A S F i + 1)) dX6_depthsBy_121 rfl (nI_1 _) (by decide) rfl ?_
                            rw [show nI (s_tc A S F i + 1) = nI (s_tc A S F (i + 1)) from (nI_1 _).symm.trans (s_tcY c11)]
                            change am_Ev G mX6_depthsBy (am_R (D + 4) 0 0) 0 0 (am_qD (sp_depthsBy A (nI S) b (nI F) (nI N)) σ) 124 [(0, .ref 32), (1, .int (nI S)), (2, .int b), (3, .int (nI F)), (4, .int (nI N)), (5, .ref (42 + 2 * S)), (6, .int (nI (s_tc A S F (i + 1)))), (7, .int (nI (F + 3 * i))), (8, .int (nI i))] [] σ10 0 0
                            refine ev_iinc (lv' := [(0, .ref 32), (1, .int (nI S)), (2, .int b), (3, .int (nI F)), (4, .int (nI N)), (5, .ref (42 + 2 * S)), (6, .int (nI (s_tc A S F (i + 1)))), (7, .int (nI (F + 3 * (i + 1)))), (8, .int (nI i))]) (v := nI (F + 3 * (i + 1))) dX6_depthsBy_124 rfl (by have z : nI (F + 3 * i) + nI 3 = nI (F + 3 * i + 3) := nI_add _ _; exact z) (by decide) rfl ?_
                            refine ev_iinc (lv' := [(0, .ref 32), (1, .int (nI S)), (2, .int b), (3, .int (nI F)), (4, .int (nI N)), (5, .ref (42 + 2 * S)), (6, .int (nI (s_tc A S F (i + 1)))), (7, .int (nI (F + 3 * (i + 1)))), (8, .int (nI (i + 1)))]) (v := nI (i + 1)) dX6_depthsBy_127 rfl (nI_1 _) (by decide) rfl ?_
                            refine ev_goto (tgt := 68) dX6_depthsBy_130 (by decide) ?_
                            exact ih (i + 1) σ10 (by omega) (Or.inr (by omega)) hX10 (fr_C.tr hFt hF10) (by omega)
                        · skip
                          rw [s_rowN e81 z1.2 (by omega) (by decide)] at hr
                          have hout : ¬ F + 3 * i + 3 ≤ sN (A 81 S) := fun z => hr (decide_eq_true (by omega))
                          refine ev_if_ne (tgt := 89) dX6_depthsBy_83 (by decide) (fun c => absurd (by decide) c) (fun _ => ?_)
                          refine ev_bipush (v := (-12)) dX6_depthsBy_86 (by decide) ?_
                          refine ev_reti dX6_depthsBy_88 rfl (Nat.zero_le _) (Nat.zero_le _) ?_
                          have et : s_ti (sN (A 81 S)) F N = i := s_ti_o (by omega) h3i hout
                          refine am_qDi (B := (s_ta A S F i)) ?_ hXt hFt
                          rw [sp_dbN hS hN hb z1.1 z1.2, if_neg hm6, if_neg (fun z => z c7), if_neg (fun z => absurd ((am_n0 (by omega)).mp z) (by omega)), if_neg hneg, sN_n hF, et, if_neg (by omega)]
                  exact lp _ 0 σ (Nat.zero_le _) (Or.inl rfl) hX fr_C.rf (Nat.lt_succ_self _)
              · skip
                refine ev_bipush (v := (-13)) dX6_depthsBy_56 (by decide) ?_
                refine ev_reti dX6_depthsBy_58 rfl (Nat.zero_le _) (Nat.zero_le _) ?_
                obtain ⟨N, hN, rfl⟩ : am_rg n 13 := am_rg3 (c := 12) (by decide) c4 c5
                have hb : am_in b 3 = true := (am_inR (by decide)).mpr (am_rg3 (c := 2) (by decide) c2 (Int32.not_lt.mp c3))
                have z1 := ws_z hA hS
                refine am_qDi (B := A) ?_ hX fr_C.rf
                rw [sp_dbN hS hN hb z1.1 z1.2, if_neg hm6, if_pos c7]
          · skip
            refine ev_bipush (v := (-2)) dX6_depthsBy_33 (by decide) ?_
            refine ev_reti dX6_depthsBy_35 rfl (Nat.zero_le _) (Nat.zero_le _) ?_
            refine am_qDi (B := A) ?_ hX fr_C.rf
            have hz : am_in n 13 = false := am_inF (by decide) (am_rgm3 (c := 12) (by decide) (by decide) c5)
            simp [sp_depthsBy, hz]
  · skip
    refine ev_astoreN (lv' := [(0, .ref 32), (1, .int s), (2, .int b), (3, .int f), (4, .int n), (5, .null)]) dX6_depthsBy_5 (by decide) rfl ?_
    refine ev_aloadN dX6_depthsBy_7 rfl ?_
    refine ev_ifnullN (tgt := 33) dX6_depthsBy_9 (by decide) ?_
    refine ev_bipush (v := (-2)) dX6_depthsBy_33 (by decide) ?_
    refine ev_reti dX6_depthsBy_35 rfl (Nat.zero_le _) (Nat.zero_le _) ?_
    refine am_qDi (B := A) ?_ hX fr_C.rf
    have hz := am_inF (n := 4) (by decide) hn1
    simp [sp_depthsBy, hz]

