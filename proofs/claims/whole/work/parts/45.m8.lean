/-! the reference: counts of masks, who covers, prices, hiring, which questions, good ones, alike -/
theorem s_hilt {A : am_S} {T : Nat} {c : Int32} : ∀ {n b : Nat}, (s_hi A T c n).1 = some b → b < n := by
  intro n
  induction n with
  | zero => intro b h; cases h
  | succ n ih =>
    intro b h
    by_cases h1 : A 69 n = -1 ∧ s_pr A n ≤ c
    · by_cases h2 : (s_hi A T c n).2.1 < s_wi A T n (nI T) ∨ ((s_hi A T c n).1 ≠ none ∧ s_wi A T n (nI T) = (s_hi A T c n).2.1 ∧ s_pr A n < (s_hi A T c n).2.2)
      · rw [s_hiY h1 h2] at h; cases h; omega
      · rw [s_hiN h2] at h; have := ih h; omega
    · rw [s_hiF h1] at h; have := ih h; omega
def s_gp (A : am_S) (o : Option Nat) : Int32 := match o with
  | none => -1
  | some b => s_ap A (fun q => b.testBit q)
set_option maxHeartbeats 400000 in
set_option maxRecDepth 100000 in
theorem c_X7_ones (G : am_G) (D : Nat) (σ : am_M) (m : Nat) (hm : m < 2 ^ 31) : am_Mt G D mX7_ones [.int (nI m)] σ 0 0 (am_q (.int (nI (s_on m))) σ) := by
  refine am_of moX7_ones (Nat.le_of_ble_eq_true rfl) ?_
  show am_Ev G mX7_ones (am_R D 0 0) 0 0 (am_q (.int (nI (s_on m))) σ) 0 [(0, .int (nI m))] [] σ 0 0
  have lp : ∀ (f : Nat) (i : Nat), (i ≤ 12) → 12 - i < f → am_Ev G mX7_ones (am_R D 0 0) 0 0 (am_q (.int (nI (s_on m))) σ) 4 [(0, .int (nI m)), (1, .int (nI (s_pc m i))), (2, .int (nI i))] [] σ 0 0 := by
    intro f
    induction f with
    | zero => intro i hi hf; exact absurd hf (Nat.not_lt_zero _)
    | succ f ih =>
      intro i hi hf
      refine ev_iload_n dX7_ones_4 rfl rfl ?_
      refine ev_bipush (v := 12) dX7_ones_5 (by decide) ?_
      refine ev_icmp_ge (tgt := 24) dX7_ones_7 (by decide) (fun c1 => ?_) (fun c1 => ?_)
      · skip
        have c1n : 12 ≤ i := (nI_leI (a := 12) (b := i) (by omega) (by omega)).mp c1
        refine ev_iload_n dX7_ones_24 rfl rfl ?_
        refine ev_reti dX7_ones_25 rfl (Nat.zero_le _) (Nat.zero_le _) ?_
        have e : i = 12 := by omega
        subst e
        exact ⟨rfl, rfl⟩
      · skip
        have c1n : ¬ 12 ≤ i := fun zz => c1 ((nI_leI (a := 12) (b := i) (by omega) (by omega)).mpr zz)
        refine ev_iload_n dX7_ones_10 rfl rfl ?_
        refine ev_iload_n dX7_ones_11 rfl rfl ?_
        refine ev_iload_n dX7_ones_12 rfl rfl ?_
        refine ev_ishr (v := (nI m) >>> ((nI i) &&& 31)) dX7_ones_13 rfl ?_
        refine ev_iconst (v := 1) dX7_ones_14 (by decide) ?_
        refine ev_iand (v := nI (if m.testBit i then 1 else 0)) dX7_ones_15 (mk_bit hm (by omega)) ?_
        refine ev_iadd (v := nI (s_pc m (i + 1))) dX7_ones_16 (nI_add _ _) ?_
        refine ev_istore_n (lv' := [(0, .int (nI m)), (1, .int (nI (s_pc m (i + 1)))), (2, .int (nI i))]) dX7_ones_17 rfl (by decide) rfl ?_
        refine ev_iinc (lv' := [(0, .int (nI m)), (1, .int (nI (s_pc m (i + 1)))), (2, .int (nI (i + 1)))]) (v := nI (i + 1)) dX7_ones_18 rfl (nI_1 _) (by decide) rfl ?_
        refine ev_goto (tgt := 4) dX7_ones_21 (by decide) ?_
        exact ih (i + 1) (by omega) (by omega)
  refine ev_iconst (v := 0) dX7_ones_0 (by decide) ?_
  refine ev_istore_n (lv' := [(0, .int (nI m)), (1, .int 0)]) dX7_ones_1 rfl (by decide) rfl ?_
  refine ev_iconst (v := 0) dX7_ones_2 (by decide) ?_
  refine ev_istore_n (lv' := [(0, .int (nI m)), (1, .int 0), (2, .int 0)]) dX7_ones_3 rfl (by decide) rfl ?_
  exact lp _ 0 (by omega) (Nat.lt_succ_self _)

set_option maxHeartbeats 400000 in
set_option maxRecDepth 100000 in
theorem c_X7_coveredBy (G : am_G) (D : Nat) (A : am_S) (σ : am_M) (hA : wf_A A) (hI : iv_M A σ) (m : Nat) (hm : m < 2 ^ 31) : am_Mt G (D + 3) mX7_coveredBy [.ref 65, .int (nI m)] σ 0 0 (am_qM A (.int (nI (s_cv A m))) σ) := by
  have b7 := wf_np7 hA
  have b8 := wf_nq8 hA
  have b6 := wf_nt6 hA
  have b61 := wf_nt1 hA
  have b160 := wf_tp160 hA
  have brl := wf_rlt hA
  refine am_of moX7_coveredBy (Nat.le_of_ble_eq_true rfl) ?_
  show am_Ev G mX7_coveredBy (am_R (D + 3) 0 0) 0 0 (am_qM A (.int (nI (s_cv A m))) σ) 0 [(0, .ref 65), (1, .int (nI m))] [] σ 0 0
  have lp : ∀ (f : Nat) (q : Nat) (x : Int32) (σ1 : am_M), (q ≤ s_nq A) → (x = nI (mk_m (fun q => s_an A m q (s_np A)) q)) → (iv_M A σ1) → (fr_M σ σ1) → s_nq A - q < f → am_Ev G mX7_coveredBy (am_R (D + 3) 0 0) 0 0 (am_qM A (.int (nI (s_cv A m))) σ) 4 [(0, .ref 65), (1, .int (nI m)), (2, .int x), (3, .int (nI q))] [] σ1 0 0 := by
    intro f
    induction f with
    | zero => intro q x σ1 hq hx hI hF hf; exact absurd hf (Nat.not_lt_zero _)
    | succ f ih =>
      intro q x σ1 hq hx hI hF hf
      refine ev_iload_n dX7_coveredBy_4 rfl rfl ?_
      refine ev_aload_n dX7_coveredBy_5 rfl rfl ?_
      refine ev_getI (v := nI (s_nq A)) dX7_coveredBy_6 fl_X7_94 (ly_k hI.ly 65 rfl) ((hI.rd 65 6 rfl).trans (wf_nq hA)) ?_
      refine ev_icmp_ge (tgt := 66) dX7_coveredBy_9 (by decide) (fun c1 => ?_) (fun c1 => ?_)
      · skip
        have c1n : (s_nq A) ≤ q := (nI_leI (a := (s_nq A)) (b := q) (by omega) (by omega)).mp c1
        refine ev_iload_n dX7_coveredBy_66 rfl rfl ?_
        refine ev_reti dX7_coveredBy_67 rfl (Nat.zero_le _) (Nat.zero_le _) ?_
        have e : q = s_nq A := by omega
        subst e
        exact ⟨by rw [hx]; rfl, hI, hF⟩
      · skip
        have c1n : ¬ (s_nq A) ≤ q := fun zz => c1 ((nI_leI (a := (s_nq A)) (b := q) (by omega) (by omega)).mpr zz)
        refine ev_iconst (v := 0) dX7_coveredBy_12 (by decide) ?_
        refine ev_istore (lv' := [(0, .ref 65), (1, .int (nI m)), (2, .int x), (3, .int (nI q)), (4, .int 0)]) dX7_coveredBy_13 (by decide) rfl ?_
        have lq : ∀ (f : Nat) (p : Nat) (acc : Int32) (σ2 : am_M), (p ≤ s_np A) → (acc = nI (mk_m (fun q => s_an A m q (s_np A)) q ||| (if s_an A m q p then 2 ^ q else 0))) → (iv_M A σ2) → (fr_M σ σ2) → s_np A - p < f → am_Ev G mX7_coveredBy (am_R (D + 3) 0 0) 0 0 (am_qM A (.int (nI (s_cv A m))) σ) 15 [(0, .ref 65), (1, .int (nI m)), (2, .int acc), (3, .int (nI q)), (4, .int (nI p))] [] σ2 0 0 := by
          intro f
          induction f with
          | zero => intro p acc σ2 hp hacc hI2 hF2 hf; exact absurd hf (Nat.not_lt_zero _)
          | succ f ih_lq =>
            intro p acc σ2 hp hacc hI2 hF2 hf
            refine ev_iload dX7_coveredBy_15 rfl ?_
            refine ev_aload_n dX7_coveredBy_17 rfl rfl ?_
            refine ev_getI (v := nI (s_np A)) dX7_coveredBy_18 fl_X7_87 (ly_k hI2.ly 65 rfl) ((hI2.rd 65 0 rfl).trans (wf_np hA)) ?_
            refine ev_icmp_ge (tgt := 60) dX7_coveredBy_21 (by decide) (fun c2 => ?_) (fun c2 => ?_)
            · skip
              have c2n : (s_np A) ≤ p := (nI_leI (a := (s_np A)) (b := p) (by omega) (by omega)).mp c2
              refine ev_iinc (lv' := [(0, .ref 65), (1, .int (nI m)), (2, .int acc), (3, .int (nI (q + 1))), (4, .int (nI p))]) (v := nI (q + 1)) dX7_coveredBy_60 rfl (nI_1 _) (by decide) rfl ?_
              refine ev_goto (tgt := 4) dX7_coveredBy_63 (by decide) ?_
              refine ev_keep (lv' := [(0, .ref 65), (1, .int (nI m)), (2, .int acc), (3, .int (nI (q + 1)))]) [0, 1, 2, 3] rfl ?_
              exact ih (q + 1) acc σ2 (by omega) (by have e : p = s_np A := (by omega); subst e; exact hacc) hI2 hF2 (by omega)
            · skip
              have c2n : ¬ (s_np A) ≤ p := fun zz => c2 ((nI_leI (a := (s_np A)) (b := p) (by omega) (by omega)).mpr zz)
              refine ev_iload_n dX7_coveredBy_24 rfl rfl ?_
              refine ev_iload_n dX7_coveredBy_25 rfl rfl ?_
              refine ev_iload dX7_coveredBy_26 rfl ?_
              refine ev_ishr (v := (nI m) >>> ((nI p) &&& 31)) dX7_coveredBy_28 rfl ?_
              refine ev_iconst (v := 1) dX7_coveredBy_29 (by decide) ?_
              refine ev_iand (v := nI (if m.testBit p then 1 else 0)) dX7_coveredBy_30 (mk_bit hm (by omega)) ?_
              cases htb : m.testBit p with
              | true =>
                rw [if_pos rfl]
                change am_Ev G mX7_coveredBy (am_R (D + 3) 0 0) 0 0 (am_qM A (.int (nI (s_cv A m))) σ) 31 [(0, .ref 65), (1, .int (nI m)), (2, .int acc), (3, .int (nI q)), (4, .int (nI p))] [.int 1, .int acc] σ2 0 0
                refine ev_iconst (v := 1) dX7_coveredBy_31 (by decide) ?_
                refine ev_icmp_ne (tgt := 51) dX7_coveredBy_32 (by decide) (fun c => absurd (by decide) c) (fun _ => ?_)
                refine ev_aload_n dX7_coveredBy_35 rfl rfl ?_
                refine ev_iload dX7_coveredBy_36 rfl ?_
                refine ev_iload_n dX7_coveredBy_38 rfl rfl ?_
                refine ev_callV (as := [.int (nI p), .int (nI q)]) (st := [.int acc]) dX7_coveredBy_39 mfX7_canAnswer lk_X7_198 (ly_k hI2.ly 65 rfl) (by decide) rfl (c_X7_canAnswer G D A σ2 hA hI2 p q (by omega) (by omega)) rfl rfl (Nat.le_of_ble_eq_true rfl) (am_hR (by omega) (by decide)) ⟨Nat.le_refl _, Nat.le_refl _⟩ ?_
                rintro _ _ (⟨h3, rfl, rfl⟩ | ⟨h3, rfl, rfl⟩)
                · skip
                  refine ev_if_eq (tgt := 51) dX7_coveredBy_42 (by decide) (fun c => absurd c (by decide)) (fun _ => ?_)
                  refine ev_iconst (v := 1) dX7_coveredBy_45 (by decide) ?_
                  refine ev_iload_n dX7_coveredBy_46 rfl rfl ?_
                  refine ev_ishl (v := nI (2 ^ q)) dX7_coveredBy_47 (mk_1s (by omega)) ?_
                  refine ev_goto (tgt := 52) dX7_coveredBy_48 (by decide) ?_
                  refine ev_ior (v := acc ||| (nI (2 ^ q))) dX7_coveredBy_52 rfl ?_
                  refine ev_istore_n (lv' := [(0, .ref 65), (1, .int (nI m)), (2, .int (acc ||| (nI (2 ^ q)))), (3, .int (nI q)), (4, .int (nI p))]) dX7_coveredBy_53 rfl (by decide) rfl ?_
                  refine ev_iinc (lv' := [(0, .ref 65), (1, .int (nI m)), (2, .int (acc ||| (nI (2 ^ q)))), (3, .int (nI q)), (4, .int (nI (p + 1)))]) (v := nI (p + 1)) dX7_coveredBy_54 rfl (nI_1 _) (by decide) rfl ?_
                  refine ev_goto (tgt := 15) dX7_coveredBy_57 (by decide) ?_
                  exact ih_lq (p + 1) (acc ||| (nI (2 ^ q))) σ2 (by omega) (by rw [hacc]; exact s_anY htb h3 _) hI2 hF2 (by omega)
                · skip
                  refine ev_if_eq (tgt := 51) dX7_coveredBy_42 (by decide) (fun _ => ?_) (fun c => absurd (by decide) c)
                  refine ev_iconst (v := 0) dX7_coveredBy_51 (by decide) ?_
                  refine ev_ior (v := acc ||| 0) dX7_coveredBy_52 rfl ?_
                  refine ev_istore_n (lv' := [(0, .ref 65), (1, .int (nI m)), (2, .int (acc ||| 0)), (3, .int (nI q)), (4, .int (nI p))]) dX7_coveredBy_53 rfl (by decide) rfl ?_
                  refine ev_iinc (lv' := [(0, .ref 65), (1, .int (nI m)), (2, .int (acc ||| 0)), (3, .int (nI q)), (4, .int (nI (p + 1)))]) (v := nI (p + 1)) dX7_coveredBy_54 rfl (nI_1 _) (by decide) rfl ?_
                  refine ev_goto (tgt := 15) dX7_coveredBy_57 (by decide) ?_
                  exact ih_lq (p + 1) (acc ||| 0) σ2 (by omega) (by rw [hacc, mk_0]; exact s_anN (Or.inr (Bool.eq_false_iff.mpr h3)) _) hI2 hF2 (by omega)
              | false =>
                rw [if_neg (by decide)]
                change am_Ev G mX7_coveredBy (am_R (D + 3) 0 0) 0 0 (am_qM A (.int (nI (s_cv A m))) σ) 31 [(0, .ref 65), (1, .int (nI m)), (2, .int acc), (3, .int (nI q)), (4, .int (nI p))] [.int 0, .int acc] σ2 0 0
                refine ev_iconst (v := 1) dX7_coveredBy_31 (by decide) ?_
                refine ev_icmp_ne (tgt := 51) dX7_coveredBy_32 (by decide) (fun _ => ?_) (fun c => absurd c (by decide))
                refine ev_iconst (v := 0) dX7_coveredBy_51 (by decide) ?_
                refine ev_ior (v := acc ||| 0) dX7_coveredBy_52 rfl ?_
                refine ev_istore_n (lv' := [(0, .ref 65), (1, .int (nI m)), (2, .int (acc ||| 0)), (3, .int (nI q)), (4, .int (nI p))]) dX7_coveredBy_53 rfl (by decide) rfl ?_
                refine ev_iinc (lv' := [(0, .ref 65), (1, .int (nI m)), (2, .int (acc ||| 0)), (3, .int (nI q)), (4, .int (nI (p + 1)))]) (v := nI (p + 1)) dX7_coveredBy_54 rfl (nI_1 _) (by decide) rfl ?_
                refine ev_goto (tgt := 15) dX7_coveredBy_57 (by decide) ?_
                exact ih_lq (p + 1) (acc ||| 0) σ2 (by omega) (by rw [hacc, mk_0]; exact s_anN (Or.inl htb) _) hI2 hF2 (by omega)
        exact lq _ 0 x σ1 (by omega) (hx.trans (s_an0 _ _ _ _)) hI hF (Nat.lt_succ_self _)
  refine ev_iconst (v := 0) dX7_coveredBy_0 (by decide) ?_
  refine ev_istore_n (lv' := [(0, .ref 65), (1, .int (nI m)), (2, .int 0)]) dX7_coveredBy_1 rfl (by decide) rfl ?_
  refine ev_iconst (v := 0) dX7_coveredBy_2 (by decide) ?_
  refine ev_istore_n (lv' := [(0, .ref 65), (1, .int (nI m)), (2, .int 0), (3, .int 0)]) dX7_coveredBy_3 rfl (by decide) rfl ?_
  exact lp _ 0 0 σ (by omega) rfl hI fr_M.rf (Nat.lt_succ_self _)

set_option maxHeartbeats 400000 in
set_option maxRecDepth 100000 in
theorem c_X7_cover (G : am_G) (D : Nat) (A : am_S) (σ : am_M) (hA : wf_A A) (hI : iv_M A σ) (w : Int32) : am_Mt G (D + 4) mX7_cover [.ref 65, .int w] σ 0 0 (am_qM A (.int (sp_cover A w)) σ) := by
  have b7 := wf_np7 hA
  have b8 := wf_nq8 hA
  have b6 := wf_nt6 hA
  have b61 := wf_nt1 hA
  have b160 := wf_tp160 hA
  have brl := wf_rlt hA
  refine am_of moX7_cover (Nat.le_of_ble_eq_true rfl) ?_
  show am_Ev G mX7_cover (am_R (D + 4) 0 0) 0 0 (am_qM A (.int (sp_cover A w)) σ) 0 [(0, .ref 65), (1, .int w)] [] σ 0 0
  have bp : 2 ^ s_np A ≤ 2 ^ 7 := Nat.pow_le_pow_right (by decide) b7
  have bp0 := Nat.two_pow_pos (s_np A)
  refine ev_iload_n dX7_cover_0 rfl rfl ?_
  refine ev_iconst (v := 0) dX7_cover_1 (by decide) ?_
  refine ev_iconst (v := 1) dX7_cover_2 (by decide) ?_
  refine ev_callS (as := [.int w, .int 0, .int 1]) (st := []) dX7_cover_3 mfX7_in lk_X7_90 (c_X7_in G (D + 3) σ w 0 1) rfl rfl (Nat.le_of_ble_eq_true rfl) (am_hR (by omega) (by decide)) ⟨Nat.le_refl _, Nat.le_refl _⟩ ?_
  rintro _ _ (⟨h1, rfl, rfl⟩ | ⟨h1, rfl, rfl⟩)
  · skip
    rcases am_v1 h1 with rfl | rfl
    · skip
      refine ev_if_ne (tgt := 12) dX7_cover_6 (by decide) (fun _ => ?_) (fun c => absurd c (by decide))
      refine ev_aload_n dX7_cover_12 rfl rfl ?_
      refine ev_iconst (v := 1) dX7_cover_13 (by decide) ?_
      refine ev_aload_n dX7_cover_14 rfl rfl ?_
      refine ev_getI (v := nI (s_np A)) dX7_cover_15 fl_X7_87 (ly_k hI.ly 65 rfl) ((hI.rd 65 0 rfl).trans (wf_np hA)) ?_
      refine ev_ishl (v := 1 <<< ((nI (s_np A)) &&& 31)) dX7_cover_18 rfl ?_
      refine ev_iconst (v := 1) dX7_cover_19 (by decide) ?_
      refine ev_isub (v := nI (2 ^ s_np A - 1)) dX7_cover_20 (s_all (by omega)) ?_
      refine ev_callV (as := [.int (nI (2 ^ s_np A - 1))]) (st := []) dX7_cover_21 mfX7_coveredBy lk_X7_235 (ly_k hI.ly 65 rfl) (by decide) rfl (c_X7_coveredBy G D A σ hA hI (2 ^ s_np A - 1) (by omega)) rfl rfl (Nat.le_of_ble_eq_true rfl) (am_hR (by omega) (by decide)) ⟨Nat.le_refl _, Nat.le_refl _⟩ ?_
      rintro _ σ2 ⟨rfl, hI2, hF2⟩
      refine ev_istore_n (lv' := [(0, .ref 65), (1, .int 0), (2, .int (nI (s_cv A (2 ^ s_np A - 1))))]) dX7_cover_24 rfl (by decide) rfl ?_
      refine ev_iconst (v := (-1)) dX7_cover_25 (by decide) ?_
      refine ev_istore_n (lv' := [(0, .ref 65), (1, .int 0), (2, .int (nI (s_cv A (2 ^ s_np A - 1)))), (3, .int (-1))]) dX7_cover_26 rfl (by decide) rfl ?_
      refine ev_iconst (v := 0) dX7_cover_27 (by decide) ?_
      refine ev_istore (lv' := [(0, .ref 65), (1, .int 0), (2, .int (nI (s_cv A (2 ^ s_np A - 1)))), (3, .int (-1)), (4, .int 0)]) dX7_cover_28 (by decide) rfl ?_
      have lp : ∀ (f : Nat) (n : Nat) (best : Int32) (σ1 : am_M), (n ≤ 2 ^ s_np A) → (best = s_bi (s_co A n)) → (iv_M A σ1) → (fr_M σ σ1) → 2 ^ s_np A - n < f → am_Ev G mX7_cover (am_R (D + 4) 0 0) 0 0 (am_qM A (.int (sp_cover A 0)) σ) 30 [(0, .ref 65), (1, .int 0), (2, .int (nI (s_cv A (2 ^ s_np A - 1)))), (3, .int best), (4, .int (nI n))] [] σ1 0 0 := by
        intro f
        induction f with
        | zero => intro n best σ1 hn hb hI hF hf; exact absurd hf (Nat.not_lt_zero _)
        | succ f ih =>
          intro n best σ1 hn hb hI hF hf
          refine ev_iload dX7_cover_30 rfl ?_
          refine ev_iconst (v := 1) dX7_cover_32 (by decide) ?_
          refine ev_aload_n dX7_cover_33 rfl rfl ?_
          refine ev_getI (v := nI (s_np A)) dX7_cover_34 fl_X7_87 (ly_k hI.ly 65 rfl) ((hI.rd 65 0 rfl).trans (wf_np hA)) ?_
          refine ev_ishl (v := nI (2 ^ s_np A)) dX7_cover_37 (mk_1s (by omega)) ?_
          refine ev_icmp_ge (tgt := 93) dX7_cover_38 (by decide) (fun c3 => ?_) (fun c3 => ?_)
          · skip
            have c3n : (2 ^ s_np A) ≤ n := (nI_leI (a := (2 ^ s_np A)) (b := n) (by omega) (by omega)).mp c3
            have e : n = 2 ^ s_np A := by omega
            obtain ⟨b, hbl, ho⟩ := s_co_all (A := A)
            rw [e, ho] at hb; subst hb
            change am_Ev G mX7_cover (am_R (D + 4) 0 0) 0 0 (am_qM A (.int (sp_cover A 0)) σ) 93 [(0, .ref 65), (1, .int 0), (2, .int (nI (s_cv A (2 ^ s_np A - 1)))), (3, .int (nI b)), (4, .int (nI n))] [] σ1 0 0
            refine ev_iload_n dX7_cover_93 rfl rfl ?_
            refine ev_if_ne (tgt := 104) dX7_cover_94 (by decide) (fun c => absurd (by decide) c) (fun _ => ?_)
            refine ev_iload_n dX7_cover_97 rfl rfl ?_
            refine ev_callS (as := [.int (nI b)]) (st := []) dX7_cover_98 mfX7_ones lk_X7_238 (c_X7_ones G (D + 3) σ1 b (by omega)) rfl rfl (Nat.le_of_ble_eq_true rfl) (am_hR (by omega) (by decide)) ⟨Nat.le_refl _, Nat.le_refl _⟩ ?_
            rintro _ _ ⟨rfl, rfl⟩
            have hon3 := s_on12 b
            refine ev_goto (tgt := 105) dX7_cover_101 (by decide) ?_
            refine ev_reti dX7_cover_105 rfl (Nat.zero_le _) (Nat.zero_le _) ?_
            have hob : s_ob A = b := by unfold s_ob; rw [ho]; rfl
            refine ⟨?_, hI, hF⟩
            simp [sp_cover, hob]
          · skip
            have c3n : ¬ (2 ^ s_np A) ≤ n := fun zz => c3 ((nI_leI (a := (2 ^ s_np A)) (b := n) (by omega) (by omega)).mpr zz)
            cases ho : s_co A n with
            | none =>
              rw [ho] at hb; subst hb
              change am_Ev G mX7_cover (am_R (D + 4) 0 0) 0 0 (am_qM A (.int (sp_cover A 0)) σ) 41 [(0, .ref 65), (1, .int 0), (2, .int (nI (s_cv A (2 ^ s_np A - 1)))), (3, .int (-1)), (4, .int (nI n))] [] σ1 0 0
              refine ev_iload_n dX7_cover_41 rfl rfl ?_
              refine ev_iconst (v := (-1)) dX7_cover_42 (by decide) ?_
              refine ev_icmp_eq (tgt := 58) dX7_cover_43 (by decide) (fun _ => ?_) (fun c => absurd (by decide) c)
              refine ev_iconst (v := 1) dX7_cover_58 (by decide) ?_
              refine ev_goto (tgt := 63) dX7_cover_59 (by decide) ?_
              refine ev_istore (lv' := [(0, .ref 65), (1, .int 0), (2, .int (nI (s_cv A (2 ^ s_np A - 1)))), (3, .int (-1)), (4, .int (nI n)), (5, .int 1)]) dX7_cover_63 (by decide) rfl ?_
              refine ev_iload dX7_cover_65 rfl ?_
              refine ev_if_eq (tgt := 85) dX7_cover_67 (by decide) (fun c => absurd c (by decide)) (fun _ => ?_)
              have hcv := s_cv31 b8 n
              have hcv2 := s_cv31 b8 (2 ^ s_np A - 1)
              refine ev_aload_n dX7_cover_70 rfl rfl ?_
              refine ev_iload dX7_cover_71 rfl ?_
              refine ev_callV (as := [.int (nI n)]) (st := []) dX7_cover_73 mfX7_coveredBy lk_X7_235 (ly_k hI.ly 65 rfl) (by decide) rfl (c_X7_coveredBy G D A σ1 hA hI n (by omega)) rfl rfl (Nat.le_of_ble_eq_true rfl) (am_hR (by omega) (by decide)) ⟨Nat.le_refl _, Nat.le_refl _⟩ ?_
              rintro _ σ4 ⟨rfl, hI4, hF4⟩
              refine ev_iload_n dX7_cover_76 rfl rfl ?_
              refine ev_icmp_ne (tgt := 85) dX7_cover_77 (by decide) (fun c5 => ?_) (fun c5 => ?_)
              · skip
                have c5n : ¬ (s_cv A n) = (s_cv A (2 ^ s_np A - 1)) := fun zz => c5 ((nI_eq (a := (s_cv A n)) (b := (s_cv A (2 ^ s_np A - 1))) (by omega) (by omega)).mpr zz)
                refine ev_iload_n dX7_cover_85 rfl rfl ?_
                refine ev_istore_n (lv' := [(0, .ref 65), (1, .int 0), (2, .int (nI (s_cv A (2 ^ s_np A - 1)))), (3, .int (-1)), (4, .int (nI n)), (5, .int 1)]) dX7_cover_86 rfl (by decide) rfl ?_
                refine ev_iinc (lv' := [(0, .ref 65), (1, .int 0), (2, .int (nI (s_cv A (2 ^ s_np A - 1)))), (3, .int (-1)), (4, .int (nI (n + 1))), (5, .int 1)]) (v := nI (n + 1)) dX7_cover_87 rfl (nI_1 _) (by decide) rfl ?_
                refine ev_goto (tgt := 30) dX7_cover_90 (by decide) ?_
                refine ev_keep (lv' := [(0, .ref 65), (1, .int 0), (2, .int (nI (s_cv A (2 ^ s_np A - 1)))), (3, .int (-1)), (4, .int (nI (n + 1)))]) [0, 1, 2, 3, 4] rfl ?_
                exact ih (n + 1) (-1) σ4 (by omega) (by rw [s_coN0 ho c5n]; rfl) hI4 (fr_M.tr hF hF4) (by omega)
              · skip
                have c5n : (s_cv A n) = (s_cv A (2 ^ s_np A - 1)) := (nI_eq (a := (s_cv A n)) (b := (s_cv A (2 ^ s_np A - 1))) (by omega) (by omega)).mp c5
                refine ev_iload dX7_cover_80 rfl ?_
                refine ev_goto (tgt := 86) dX7_cover_82 (by decide) ?_
                refine ev_istore_n (lv' := [(0, .ref 65), (1, .int 0), (2, .int (nI (s_cv A (2 ^ s_np A - 1)))), (3, .int (nI n)), (4, .int (nI n)), (5, .int 1)]) dX7_cover_86 rfl (by decide) rfl ?_
                refine ev_iinc (lv' := [(0, .ref 65), (1, .int 0), (2, .int (nI (s_cv A (2 ^ s_np A - 1)))), (3, .int (nI n)), (4, .int (nI (n + 1))), (5, .int 1)]) (v := nI (n + 1)) dX7_cover_87 rfl (nI_1 _) (by decide) rfl ?_
                refine ev_goto (tgt := 30) dX7_cover_90 (by decide) ?_
                refine ev_keep (lv' := [(0, .ref 65), (1, .int 0), (2, .int (nI (s_cv A (2 ^ s_np A - 1)))), (3, .int (nI n)), (4, .int (nI (n + 1)))]) [0, 1, 2, 3, 4] rfl ?_
                exact ih (n + 1) (nI n) σ4 (by omega) (by rw [s_coN1 ho c5n]; rfl) hI4 (fr_M.tr hF hF4) (by omega)
            | some b =>
              have hbl := s_colt ho
              rw [ho] at hb; subst hb
              change am_Ev G mX7_cover (am_R (D + 4) 0 0) 0 0 (am_qM A (.int (sp_cover A 0)) σ) 41 [(0, .ref 65), (1, .int 0), (2, .int (nI (s_cv A (2 ^ s_np A - 1)))), (3, .int (nI b)), (4, .int (nI n))] [] σ1 0 0
              refine ev_iload_n dX7_cover_41 rfl rfl ?_
              refine ev_iconst (v := (-1)) dX7_cover_42 (by decide) ?_
              refine ev_icmp_eq (tgt := 58) dX7_cover_43 (by decide) (fun c => absurd c (s_bi_n (by omega))) (fun _ => ?_)
              refine ev_iload dX7_cover_46 rfl ?_
              refine ev_callS (as := [.int (nI n)]) (st := []) dX7_cover_48 mfX7_ones lk_X7_238 (c_X7_ones G (D + 3) σ1 n (by omega)) rfl rfl (Nat.le_of_ble_eq_true rfl) (am_hR (by omega) (by decide)) ⟨Nat.le_refl _, Nat.le_refl _⟩ ?_
              rintro _ _ ⟨rfl, rfl⟩
              have hon5 := s_on12 n
              refine ev_iload_n dX7_cover_51 rfl rfl ?_
              refine ev_callS (as := [.int (nI b)]) (st := [.int (nI (s_on n))]) dX7_cover_52 mfX7_ones lk_X7_238 (c_X7_ones G (D + 3) σ1 b (by omega)) rfl rfl (Nat.le_of_ble_eq_true rfl) (am_hR (by omega) (by decide)) ⟨Nat.le_refl _, Nat.le_refl _⟩ ?_
              rintro _ _ ⟨rfl, rfl⟩
              have hon5 := s_on12 b
              refine ev_icmp_ge (tgt := 62) dX7_cover_55 (by decide) (fun c6 => ?_) (fun c6 => ?_)
              · skip
                have c6n : (s_on b) ≤ (s_on n) := (nI_leI (a := (s_on b)) (b := (s_on n)) (by omega) (by omega)).mp c6
                refine ev_iconst (v := 0) dX7_cover_62 (by decide) ?_
                refine ev_istore (lv' := [(0, .ref 65), (1, .int 0), (2, .int (nI (s_cv A (2 ^ s_np A - 1)))), (3, .int (nI b)), (4, .int (nI n)), (5, .int 0)]) dX7_cover_63 (by decide) rfl ?_
                refine ev_iload dX7_cover_65 rfl ?_
                refine ev_if_eq (tgt := 85) dX7_cover_67 (by decide) (fun _ => ?_) (fun c => absurd (by decide) c)
                refine ev_iload_n dX7_cover_85 rfl rfl ?_
                refine ev_istore_n (lv' := [(0, .ref 65), (1, .int 0), (2, .int (nI (s_cv A (2 ^ s_np A - 1)))), (3, .int (nI b)), (4, .int (nI n)), (5, .int 0)]) dX7_cover_86 rfl (by decide) rfl ?_
                refine ev_iinc (lv' := [(0, .ref 65), (1, .int 0), (2, .int (nI (s_cv A (2 ^ s_np A - 1)))), (3, .int (nI b)), (4, .int (nI (n + 1))), (5, .int 0)]) (v := nI (n + 1)) dX7_cover_87 rfl (nI_1 _) (by decide) rfl ?_
                refine ev_goto (tgt := 30) dX7_cover_90 (by decide) ?_
                refine ev_keep (lv' := [(0, .ref 65), (1, .int 0), (2, .int (nI (s_cv A (2 ^ s_np A - 1)))), (3, .int (nI b)), (4, .int (nI (n + 1)))]) [0, 1, 2, 3, 4] rfl ?_
                exact ih (n + 1) (nI b) σ1 (by omega) (by rw [s_coB0 ho (fun z => by have := z.1; omega)]; rfl) hI hF (by omega)
              · skip
                have c6n : ¬ (s_on b) ≤ (s_on n) := fun zz => c6 ((nI_leI (a := (s_on b)) (b := (s_on n)) (by omega) (by omega)).mpr zz)
                refine ev_iconst (v := 1) dX7_cover_58 (by decide) ?_
                refine ev_goto (tgt := 63) dX7_cover_59 (by decide) ?_
                refine ev_istore (lv' := [(0, .ref 65), (1, .int 0), (2, .int (nI (s_cv A (2 ^ s_np A - 1)))), (3, .int (nI b)), (4, .int (nI n)), (5, .int 1)]) dX7_cover_63 (by decide) rfl ?_
                refine ev_iload dX7_cover_65 rfl ?_
                refine ev_if_eq (tgt := 85) dX7_cover_67 (by decide) (fun c => absurd c (by decide)) (fun _ => ?_)
                have hcv := s_cv31 b8 n
                have hcv2 := s_cv31 b8 (2 ^ s_np A - 1)
                refine ev_aload_n dX7_cover_70 rfl rfl ?_
                refine ev_iload dX7_cover_71 rfl ?_
                refine ev_callV (as := [.int (nI n)]) (st := []) dX7_cover_73 mfX7_coveredBy lk_X7_235 (ly_k hI.ly 65 rfl) (by decide) rfl (c_X7_coveredBy G D A σ1 hA hI n (by omega)) rfl rfl (Nat.le_of_ble_eq_true rfl) (am_hR (by omega) (by decide)) ⟨Nat.le_refl _, Nat.le_refl _⟩ ?_
                rintro _ σ7 ⟨rfl, hI7, hF7⟩
                refine ev_iload_n dX7_cover_76 rfl rfl ?_
                refine ev_icmp_ne (tgt := 85) dX7_cover_77 (by decide) (fun c8 => ?_) (fun c8 => ?_)
                · skip
                  have c8n : ¬ (s_cv A n) = (s_cv A (2 ^ s_np A - 1)) := fun zz => c8 ((nI_eq (a := (s_cv A n)) (b := (s_cv A (2 ^ s_np A - 1))) (by omega) (by omega)).mpr zz)
                  refine ev_iload_n dX7_cover_85 rfl rfl ?_
                  refine ev_istore_n (lv' := [(0, .ref 65), (1, .int 0), (2, .int (nI (s_cv A (2 ^ s_np A - 1)))), (3, .int (nI b)), (4, .int (nI n)), (5, .int 1)]) dX7_cover_86 rfl (by decide) rfl ?_
                  refine ev_iinc (lv' := [(0, .ref 65), (1, .int 0), (2, .int (nI (s_cv A (2 ^ s_np A - 1)))), (3, .int (nI b)), (4, .int (nI (n + 1))), (5, .int 1)]) (v := nI (n + 1)) dX7_cover_87 rfl (nI_1 _) (by decide) rfl ?_
                  refine ev_goto (tgt := 30) dX7_cover_90 (by decide) ?_
                  refine ev_keep (lv' := [(0, .ref 65), (1, .int 0), (2, .int (nI (s_cv A (2 ^ s_np A - 1)))), (3, .int (nI b)), (4, .int (nI (n + 1)))]) [0, 1, 2, 3, 4] rfl ?_
                  exact ih (n + 1) (nI b) σ7 (by omega) (by rw [s_coB0 ho (fun z => c8n z.2)]; rfl) hI7 (fr_M.tr hF hF7) (by omega)
                · skip
                  have c8n : (s_cv A n) = (s_cv A (2 ^ s_np A - 1)) := (nI_eq (a := (s_cv A n)) (b := (s_cv A (2 ^ s_np A - 1))) (by omega) (by omega)).mp c8
                  refine ev_iload dX7_cover_80 rfl ?_
                  refine ev_goto (tgt := 86) dX7_cover_82 (by decide) ?_
                  refine ev_istore_n (lv' := [(0, .ref 65), (1, .int 0), (2, .int (nI (s_cv A (2 ^ s_np A - 1)))), (3, .int (nI n)), (4, .int (nI n)), (5, .int 1)]) dX7_cover_86 rfl (by decide) rfl ?_
                  refine ev_iinc (lv' := [(0, .ref 65), (1, .int 0), (2, .int (nI (s_cv A (2 ^ s_np A - 1)))), (3, .int (nI n)), (4, .int (nI (n + 1))), (5, .int 1)]) (v := nI (n + 1)) dX7_cover_87 rfl (nI_1 _) (by decide) rfl ?_
                  refine ev_goto (tgt := 30) dX7_cover_90 (by decide) ?_
                  refine ev_keep (lv' := [(0, .ref 65), (1, .int 0), (2, .int (nI (s_cv A (2 ^ s_np A - 1)))), (3, .int (nI n)), (4, .int (nI (n + 1)))]) [0, 1, 2, 3, 4] rfl ?_
                  exact ih (n + 1) (nI n) σ7 (by omega) (by rw [s_coB1 ho ⟨by omega, c8n⟩]; rfl) hI7 (fr_M.tr hF hF7) (by omega)
      exact lp _ 0 (-1) σ2 (by omega) rfl hI2 (fr_M.tr fr_M.rf hF2) (Nat.lt_succ_self _)
    · skip
      refine ev_if_ne (tgt := 12) dX7_cover_6 (by decide) (fun _ => ?_) (fun c => absurd c (by decide))
      refine ev_aload_n dX7_cover_12 rfl rfl ?_
      refine ev_iconst (v := 1) dX7_cover_13 (by decide) ?_
      refine ev_aload_n dX7_cover_14 rfl rfl ?_
      refine ev_getI (v := nI (s_np A)) dX7_cover_15 fl_X7_87 (ly_k hI.ly 65 rfl) ((hI.rd 65 0 rfl).trans (wf_np hA)) ?_
      refine ev_ishl (v := 1 <<< ((nI (s_np A)) &&& 31)) dX7_cover_18 rfl ?_
      refine ev_iconst (v := 1) dX7_cover_19 (by decide) ?_
      refine ev_isub (v := nI (2 ^ s_np A - 1)) dX7_cover_20 (s_all (by omega)) ?_
      refine ev_callV (as := [.int (nI (2 ^ s_np A - 1))]) (st := []) dX7_cover_21 mfX7_coveredBy lk_X7_235 (ly_k hI.ly 65 rfl) (by decide) rfl (c_X7_coveredBy G D A σ hA hI (2 ^ s_np A - 1) (by omega)) rfl rfl (Nat.le_of_ble_eq_true rfl) (am_hR (by omega) (by decide)) ⟨Nat.le_refl _, Nat.le_refl _⟩ ?_
      rintro _ σ9 ⟨rfl, hI9, hF9⟩
      refine ev_istore_n (lv' := [(0, .ref 65), (1, .int 1), (2, .int (nI (s_cv A (2 ^ s_np A - 1))))]) dX7_cover_24 rfl (by decide) rfl ?_
      refine ev_iconst (v := (-1)) dX7_cover_25 (by decide) ?_
      refine ev_istore_n (lv' := [(0, .ref 65), (1, .int 1), (2, .int (nI (s_cv A (2 ^ s_np A - 1)))), (3, .int (-1))]) dX7_cover_26 rfl (by decide) rfl ?_
      refine ev_iconst (v := 0) dX7_cover_27 (by decide) ?_
      refine ev_istore (lv' := [(0, .ref 65), (1, .int 1), (2, .int (nI (s_cv A (2 ^ s_np A - 1)))), (3, .int (-1)), (4, .int 0)]) dX7_cover_28 (by decide) rfl ?_
      have lp : ∀ (f : Nat) (n : Nat) (best : Int32) (σ1 : am_M), (n ≤ 2 ^ s_np A) → (best = s_bi (s_co A n)) → (iv_M A σ1) → (fr_M σ σ1) → 2 ^ s_np A - n < f → am_Ev G mX7_cover (am_R (D + 4) 0 0) 0 0 (am_qM A (.int (sp_cover A 1)) σ) 30 [(0, .ref 65), (1, .int 1), (2, .int (nI (s_cv A (2 ^ s_np A - 1)))), (3, .int best), (4, .int (nI n))] [] σ1 0 0 := by
        intro f
        induction f with
        | zero => intro n best σ1 hn hb hI hF hf; exact absurd hf (Nat.not_lt_zero _)
        | succ f ih =>
          intro n best σ1 hn hb hI hF hf
          refine ev_iload dX7_cover_30 rfl ?_
          refine ev_iconst (v := 1) dX7_cover_32 (by decide) ?_
          refine ev_aload_n dX7_cover_33 rfl rfl ?_
          refine ev_getI (v := nI (s_np A)) dX7_cover_34 fl_X7_87 (ly_k hI.ly 65 rfl) ((hI.rd 65 0 rfl).trans (wf_np hA)) ?_
          refine ev_ishl (v := nI (2 ^ s_np A)) dX7_cover_37 (mk_1s (by omega)) ?_
          refine ev_icmp_ge (tgt := 93) dX7_cover_38 (by decide) (fun c10 => ?_) (fun c10 => ?_)
          · skip
            have c10n : (2 ^ s_np A) ≤ n := (nI_leI (a := (2 ^ s_np A)) (b := n) (by omega) (by omega)).mp c10
            have e : n = 2 ^ s_np A := by omega
            obtain ⟨b, hbl, ho⟩ := s_co_all (A := A)
            rw [e, ho] at hb; subst hb
            change am_Ev G mX7_cover (am_R (D + 4) 0 0) 0 0 (am_qM A (.int (sp_cover A 1)) σ) 93 [(0, .ref 65), (1, .int 1), (2, .int (nI (s_cv A (2 ^ s_np A - 1)))), (3, .int (nI b)), (4, .int (nI n))] [] σ1 0 0
            refine ev_iload_n dX7_cover_93 rfl rfl ?_
            refine ev_if_ne (tgt := 104) dX7_cover_94 (by decide) (fun _ => ?_) (fun c => absurd c (by decide))
            refine ev_iload_n dX7_cover_104 rfl rfl ?_
            refine ev_reti dX7_cover_105 rfl (Nat.zero_le _) (Nat.zero_le _) ?_
            have hob : s_ob A = b := by unfold s_ob; rw [ho]; rfl
            refine ⟨?_, hI, hF⟩
            simp [sp_cover, hob]
          · skip
            have c10n : ¬ (2 ^ s_np A) ≤ n := fun zz => c10 ((nI_leI (a := (2 ^ s_np A)) (b := n) (by omega) (by omega)).mpr zz)
            cases ho : s_co A n with
            | none =>
              rw [ho] at hb; subst hb
              change am_Ev G mX7_cover (am_R (D + 4) 0 0) 0 0 (am_qM A (.int (sp_cover A 1)) σ) 41 [(0, .ref 65), (1, .int 1), (2, .int (nI (s_cv A (2 ^ s_np A - 1)))), (3, .int (-1)), (4, .int (nI n))] [] σ1 0 0
              refine ev_iload_n dX7_cover_41 rfl rfl ?_
              refine ev_iconst (v := (-1)) dX7_cover_42 (by decide) ?_
              refine ev_icmp_eq (tgt := 58) dX7_cover_43 (by decide) (fun _ => ?_) (fun c => absurd (by decide) c)
              refine ev_iconst (v := 1) dX7_cover_58 (by decide) ?_
              refine ev_goto (tgt := 63) dX7_cover_59 (by decide) ?_
              refine ev_istore (lv' := [(0, .ref 65), (1, .int 1), (2, .int (nI (s_cv A (2 ^ s_np A - 1)))), (3, .int (-1)), (4, .int (nI n)), (5, .int 1)]) dX7_cover_63 (by decide) rfl ?_
              refine ev_iload dX7_cover_65 rfl ?_
              refine ev_if_eq (tgt := 85) dX7_cover_67 (by decide) (fun c => absurd c (by decide)) (fun _ => ?_)
              have hcv := s_cv31 b8 n
              have hcv2 := s_cv31 b8 (2 ^ s_np A - 1)
              refine ev_aload_n dX7_cover_70 rfl rfl ?_
              refine ev_iload dX7_cover_71 rfl ?_
              refine ev_callV (as := [.int (nI n)]) (st := []) dX7_cover_73 mfX7_coveredBy lk_X7_235 (ly_k hI.ly 65 rfl) (by decide) rfl (c_X7_coveredBy G D A σ1 hA hI n (by omega)) rfl rfl (Nat.le_of_ble_eq_true rfl) (am_hR (by omega) (by decide)) ⟨Nat.le_refl _, Nat.le_refl _⟩ ?_
              rintro _ σ11 ⟨rfl, hI11, hF11⟩
              refine ev_iload_n dX7_cover_76 rfl rfl ?_
              refine ev_icmp_ne (tgt := 85) dX7_cover_77 (by decide) (fun c12 => ?_) (fun c12 => ?_)
              · skip
                have c12n : ¬ (s_cv A n) = (s_cv A (2 ^ s_np A - 1)) := fun zz => c12 ((nI_eq (a := (s_cv A n)) (b := (s_cv A (2 ^ s_np A - 1))) (by omega) (by omega)).mpr zz)
                refine ev_iload_n dX7_cover_85 rfl rfl ?_
                refine ev_istore_n (lv' := [(0, .ref 65), (1, .int 1), (2, .int (nI (s_cv A (2 ^ s_np A - 1)))), (3, .int (-1)), (4, .int (nI n)), (5, .int 1)]) dX7_cover_86 rfl (by decide) rfl ?_
                refine ev_iinc (lv' := [(0, .ref 65), (1, .int 1), (2, .int (nI (s_cv A (2 ^ s_np A - 1)))), (3, .int (-1)), (4, .int (nI (n + 1))), (5, .int 1)]) (v := nI (n + 1)) dX7_cover_87 rfl (nI_1 _) (by decide) rfl ?_
                refine ev_goto (tgt := 30) dX7_cover_90 (by decide) ?_
                refine ev_keep (lv' := [(0, .ref 65), (1, .int 1), (2, .int (nI (s_cv A (2 ^ s_np A - 1)))), (3, .int (-1)), (4, .int (nI (n + 1)))]) [0, 1, 2, 3, 4] rfl ?_
                exact ih (n + 1) (-1) σ11 (by omega) (by rw [s_coN0 ho c12n]; rfl) hI11 (fr_M.tr hF hF11) (by omega)
              · skip
                have c12n : (s_cv A n) = (s_cv A (2 ^ s_np A - 1)) := (nI_eq (a := (s_cv A n)) (b := (s_cv A (2 ^ s_np A - 1))) (by omega) (by omega)).mp c12
                refine ev_iload dX7_cover_80 rfl ?_
                refine ev_goto (tgt := 86) dX7_cover_82 (by decide) ?_
                refine ev_istore_n (lv' := [(0, .ref 65), (1, .int 1), (2, .int (nI (s_cv A (2 ^ s_np A - 1)))), (3, .int (nI n)), (4, .int (nI n)), (5, .int 1)]) dX7_cover_86 rfl (by decide) rfl ?_
                refine ev_iinc (lv' := [(0, .ref 65), (1, .int 1), (2, .int (nI (s_cv A (2 ^ s_np A - 1)))), (3, .int (nI n)), (4, .int (nI (n + 1))), (5, .int 1)]) (v := nI (n + 1)) dX7_cover_87 rfl (nI_1 _) (by decide) rfl ?_
                refine ev_goto (tgt := 30) dX7_cover_90 (by decide) ?_
                refine ev_keep (lv' := [(0, .ref 65), (1, .int 1), (2, .int (nI (s_cv A (2 ^ s_np A - 1)))), (3, .int (nI n)), (4, .int (nI (n + 1)))]) [0, 1, 2, 3, 4] rfl ?_
                exact ih (n + 1) (nI n) σ11 (by omega) (by rw [s_coN1 ho c12n]; rfl) hI11 (fr_M.tr hF hF11) (by omega)
            | some b =>
              have hbl := s_colt ho
              rw [ho] at hb; subst hb
              change am_Ev G mX7_cover (am_R (D + 4) 0 0) 0 0 (am_qM A (.int (sp_cover A 1)) σ) 41 [(0, .ref 65), (1, .int 1), (2, .int (nI (s_cv A (2 ^ s_np A - 1)))), (3, .int (nI b)), (4, .int (nI n))] [] σ1 0 0
              refine ev_iload_n dX7_cover_41 rfl rfl ?_
              refine ev_iconst (v := (-1)) dX7_cover_42 (by decide) ?_
              refine ev_icmp_eq (tgt := 58) dX7_cover_43 (by decide) (fun c => absurd c (s_bi_n (by omega))) (fun _ => ?_)
              refine ev_iload dX7_cover_46 rfl ?_
              refine ev_callS (as := [.int (nI n)]) (st := []) dX7_cover_48 mfX7_ones lk_X7_238 (c_X7_ones G (D + 3) σ1 n (by omega)) rfl rfl (Nat.le_of_ble_eq_true rfl) (am_hR (by omega) (by decide)) ⟨Nat.le_refl _, Nat.le_refl _⟩ ?_
              rintro _ _ ⟨rfl, rfl⟩
              have hon12 := s_on12 n
              refine ev_iload_n dX7_cover_51 rfl rfl ?_
              refine ev_callS (as := [.int (nI b)]) (st := [.int (nI (s_on n))]) dX7_cover_52 mfX7_ones lk_X7_238 (c_X7_ones G (D + 3) σ1 b (by omega)) rfl rfl (Nat.le_of_ble_eq_true rfl) (am_hR (by omega) (by decide)) ⟨Nat.le_refl _, Nat.le_refl _⟩ ?_
              rintro _ _ ⟨rfl, rfl⟩
              have hon12 := s_on12 b
              refine ev_icmp_ge (tgt := 62) dX7_cover_55 (by decide) (fun c13 => ?_) (fun c13 => ?_)
              · skip
                have c13n : (s_on b) ≤ (s_on n) := (nI_leI (a := (s_on b)) (b := (s_on n)) (by omega) (by omega)).mp c13
                refine ev_iconst (v := 0) dX7_cover_62 (by decide) ?_
                refine ev_istore (lv' := [(0, .ref 65), (1, .int 1), (2, .int (nI (s_cv A (2 ^ s_np A - 1)))), (3, .int (nI b)), (4, .int (nI n)), (5, .int 0)]) dX7_cover_63 (by decide) rfl ?_
                refine ev_iload dX7_cover_65 rfl ?_
                refine ev_if_eq (tgt := 85) dX7_cover_67 (by decide) (fun _ => ?_) (fun c => absurd (by decide) c)
                refine ev_iload_n dX7_cover_85 rfl rfl ?_
                refine ev_istore_n (lv' := [(0, .ref 65), (1, .int 1), (2, .int (nI (s_cv A (2 ^ s_np A - 1)))), (3, .int (nI b)), (4, .int (nI n)), (5, .int 0)]) dX7_cover_86 rfl (by decide) rfl ?_
                refine ev_iinc (lv' := [(0, .ref 65), (1, .int 1), (2, .int (nI (s_cv A (2 ^ s_np A - 1)))), (3, .int (nI b)), (4, .int (nI (n + 1))), (5, .int 0)]) (v := nI (n + 1)) dX7_cover_87 rfl (nI_1 _) (by decide) rfl ?_
                refine ev_goto (tgt := 30) dX7_cover_90 (by decide) ?_
                refine ev_keep (lv' := [(0, .ref 65), (1, .int 1), (2, .int (nI (s_cv A (2 ^ s_np A - 1)))), (3, .int (nI b)), (4, .int (nI (n + 1)))]) [0, 1, 2, 3, 4] rfl ?_
                exact ih (n + 1) (nI b) σ1 (by omega) (by rw [s_coB0 ho (fun z => by have := z.1; omega)]; rfl) hI hF (by omega)
              · skip
                have c13n : ¬ (s_on b) ≤ (s_on n) := fun zz => c13 ((nI_leI (a := (s_on b)) (b := (s_on n)) (by omega) (by omega)).mpr zz)
                refine ev_iconst (v := 1) dX7_cover_58 (by decide) ?_
                refine ev_goto (tgt := 63) dX7_cover_59 (by decide) ?_
                refine ev_istore (lv' := [(0, .ref 65), (1, .int 1), (2, .int (nI (s_cv A (2 ^ s_np A - 1)))), (3, .int (nI b)), (4, .int (nI n)), (5, .int 1)]) dX7_cover_63 (by decide) rfl ?_
                refine ev_iload dX7_cover_65 rfl ?_
                refine ev_if_eq (tgt := 85) dX7_cover_67 (by decide) (fun c => absurd c (by decide)) (fun _ => ?_)
                have hcv := s_cv31 b8 n
                have hcv2 := s_cv31 b8 (2 ^ s_np A - 1)
                refine ev_aload_n dX7_cover_70 rfl rfl ?_
                refine ev_iload dX7_cover_71 rfl ?_
                refine ev_callV (as := [.int (nI n)]) (st := []) dX7_cover_73 mfX7_coveredBy lk_X7_235 (ly_k hI.ly 65 rfl) (by decide) rfl (c_X7_coveredBy G D A σ1 hA hI n (by omega)) rfl rfl (Nat.le_of_ble_eq_true rfl) (am_hR (by omega) (by decide)) ⟨Nat.le_refl _, Nat.le_refl _⟩ ?_
                rintro _ σ14 ⟨rfl, hI14, hF14⟩
                refine ev_iload_n dX7_cover_76 rfl rfl ?_
                refine ev_icmp_ne (tgt := 85) dX7_cover_77 (by decide) (fun c15 => ?_) (fun c15 => ?_)
                · skip
                  have c15n : ¬ (s_cv A n) = (s_cv A (2 ^ s_np A - 1)) := fun zz => c15 ((nI_eq (a := (s_cv A n)) (b := (s_cv A (2 ^ s_np A - 1))) (by omega) (by omega)).mpr zz)
                  refine ev_iload_n dX7_cover_85 rfl rfl ?_
                  refine ev_istore_n (lv' := [(0, .ref 65), (1, .int 1), (2, .int (nI (s_cv A (2 ^ s_np A - 1)))), (3, .int (nI b)), (4, .int (nI n)), (5, .int 1)]) dX7_cover_86 rfl (by decide) rfl ?_
                  refine ev_iinc (lv' := [(0, .ref 65), (1, .int 1), (2, .int (nI (s_cv A (2 ^ s_np A - 1)))), (3, .int (nI b)), (4, .int (nI (n + 1))), (5, .int 1)]) (v := nI (n + 1)) dX7_cover_87 rfl (nI_1 _) (by decide) rfl ?_
                  refine ev_goto (tgt := 30) dX7_cover_90 (by decide) ?_
                  refine ev_keep (lv' := [(0, .ref 65), (1, .int 1), (2, .int (nI (s_cv A (2 ^ s_np A - 1)))), (3, .int (nI b)), (4, .int (nI (n + 1)))]) [0, 1, 2, 3, 4] rfl ?_
                  exact ih (n + 1) (nI b) σ14 (by omega) (by rw [s_coB0 ho (fun z => c15n z.2)]; rfl) hI14 (fr_M.tr hF hF14) (by omega)
                · skip
                  have c15n : (s_cv A n) = (s_cv A (2 ^ s_np A - 1)) := (nI_eq (a := (s_cv A n)) (b := (s_cv A (2 ^ s_np A - 1))) (by omega) (by omega)).mp c15
                  refine ev_iload dX7_cover_80 rfl ?_
                  refine ev_goto (tgt := 86) dX7_cover_82 (by decide) ?_
                  refine ev_istore_n (lv' := [(0, .ref 65), (1, .int 1), (2, .int (nI (s_cv A (2 ^ s_np A - 1)))), (3, .int (nI n)), (4, .int (nI n)), (5, .int 1)]) dX7_cover_86 rfl (by decide) rfl ?_
                  refine ev_iinc (lv' := [(0, .ref 65), (1, .int 1), (2, .int (nI (s_cv A (2 ^ s_np A - 1)))), (3, .int (nI n)), (4, .int (nI (n + 1))), (5, .int 1)]) (v := nI (n + 1)) dX7_cover_87 rfl (nI_1 _) (by decide) rfl ?_
                  refine ev_goto (tgt := 30) dX7_cover_90 (by decide) ?_
                  refine ev_keep (lv' := [(0, .ref 65), (1, .int 1), (2, .int (nI (s_cv A (2 ^ s_np A - 1)))), (3, .int (nI n)), (4, .int (nI (n + 1)))]) [0, 1, 2, 3, 4] rfl ?_
                  exact ih (n + 1) (nI n) σ14 (by omega) (by rw [s_coB1 ho ⟨by omega, c15n⟩]; rfl) hI14 (fr_M.tr hF hF14) (by omega)
      exact lp _ 0 (-1) σ9 (by omega) rfl hI9 (fr_M.tr fr_M.rf hF9) (Nat.lt_succ_self _)
  · skip
    have h1r := fun q => h1 ((am_rgl (n := 2) (by decide)).mpr q)
    have hw0 := am_w1 h1r
    refine ev_if_ne (tgt := 12) dX7_cover_6 (by decide) (fun c => absurd (by decide) c) (fun _ => ?_)
    refine ev_bipush (v := (-2)) dX7_cover_9 (by decide) ?_
    refine ev_reti dX7_cover_11 rfl (Nat.zero_le _) (Nat.zero_le _) ?_
    refine ⟨?_, hI, fr_M.rf⟩
    simp [sp_cover, hw0]

set_option maxHeartbeats 400000 in
set_option maxRecDepth 100000 in
theorem c_X7_priceOf (G : am_G) (D : Nat) (A : am_S) (σ : am_M) (hA : wf_A A) (hI : iv_M A σ) (p : Nat) (hp : p < s_np A) : am_Mt G (D + 3) mX7_priceOf [.ref 65, .int (nI p)] σ 0 0 (am_qM A (.int (s_pr A p)) σ) := by
  have b7 := wf_np7 hA
  have b8 := wf_nq8 hA
  have b6 := wf_nt6 hA
  have b61 := wf_nt1 hA
  have b160 := wf_tp160 hA
  have brl := wf_rlt hA
  refine am_of moX7_priceOf (Nat.le_of_ble_eq_true rfl) ?_
  show am_Ev G mX7_priceOf (am_R (D + 3) 0 0) 0 0 (am_qM A (.int (s_pr A p)) σ) 0 [(0, .ref 65), (1, .int (nI p))] [] σ 0 0
  refine ev_iconst (v := 0) dX7_priceOf_0 (by decide) ?_
  refine ev_istore_n (lv' := [(0, .ref 65), (1, .int (nI p)), (2, .int 0)]) dX7_priceOf_1 rfl (by decide) rfl ?_
  refine ev_iconst (v := 1) dX7_priceOf_2 (by decide) ?_
  refine ev_istore_n (lv' := [(0, .ref 65), (1, .int (nI p)), (2, .int 0), (3, .int 1)]) dX7_priceOf_3 rfl (by decide) rfl ?_
  refine ev_iload_n dX7_priceOf_4 rfl rfl ?_
  refine ev_iconst (v := 4) dX7_priceOf_5 (by decide) ?_
  refine ev_icmp_ge (tgt := 44) dX7_priceOf_6 (by decide) (fun c => absurd c (by decide)) (fun _ => ?_)
  refine ev_aload_n dX7_priceOf_9 rfl rfl ?_
  refine ev_getR (b := 70) dX7_priceOf_10 fl_X7_22 (ly_k hI.ly 65 rfl) (ly_r hI.ly 33 rfl) ?_
  refine ev_iconst (v := 4) dX7_priceOf_13 (by decide) ?_
  refine ev_iload_n dX7_priceOf_14 rfl rfl ?_
  refine ev_imul (v := nI (4 * p)) dX7_priceOf_15 (pk_mul 4 p) ?_
  refine ev_iload_n dX7_priceOf_16 rfl rfl ?_
  refine ev_iadd (v := nI (4 * p + 1)) dX7_priceOf_17 (nI_1 _) ?_
  refine ev_iald (v := A 70 (4 * p + 1)) dX7_priceOf_18 (ly_k hI.ly 70 rfl) (am_ixn (by omega) (by decide)) (hI.rd 70 (4 * p + 1) rfl) ?_
  refine ev_aload_n dX7_priceOf_19 rfl rfl ?_
  refine ev_getR (b := 70) dX7_priceOf_20 fl_X7_22 (ly_k hI.ly 65 rfl) (ly_r hI.ly 33 rfl) ?_
  refine ev_iconst (v := 4) dX7_priceOf_23 (by decide) ?_
  refine ev_iload_n dX7_priceOf_24 rfl rfl ?_
  refine ev_imul (v := nI (4 * p)) dX7_priceOf_25 (pk_mul 4 p) ?_
  refine ev_iload_n dX7_priceOf_26 rfl rfl ?_
  refine ev_iadd (v := nI (4 * p + 0)) dX7_priceOf_27 (nI_add (4 * p) 0) ?_
  refine ev_iald (v := A 70 (4 * p + 0)) dX7_priceOf_28 (ly_k hI.ly 70 rfl) (am_ixn (by omega) (by decide)) (hI.rd 70 (4 * p + 0) rfl) ?_
  refine ev_icmp_le (tgt := 36) dX7_priceOf_29 (by decide) (fun c1 => ?_) (fun c1 => ?_)
  · skip
    refine ev_iload_n dX7_priceOf_36 rfl rfl ?_
    refine ev_istore_n (lv' := [(0, .ref 65), (1, .int (nI p)), (2, .int 0), (3, .int 1)]) dX7_priceOf_37 rfl (by decide) rfl ?_
    refine ev_iinc (lv' := [(0, .ref 65), (1, .int (nI p)), (2, .int 0), (3, .int 2)]) (v := 2) dX7_priceOf_38 rfl (by decide) (by decide) rfl ?_
    refine ev_goto (tgt := 4) dX7_priceOf_41 (by decide) ?_
    refine ev_iload_n dX7_priceOf_4 rfl rfl ?_
    refine ev_iconst (v := 4) dX7_priceOf_5 (by decide) ?_
    refine ev_icmp_ge (tgt := 44) dX7_priceOf_6 (by decide) (fun c => absurd c (by decide)) (fun _ => ?_)
    refine ev_aload_n dX7_priceOf_9 rfl rfl ?_
    refine ev_getR (b := 70) dX7_priceOf_10 fl_X7_22 (ly_k hI.ly 65 rfl) (ly_r hI.ly 33 rfl) ?_
    refine ev_iconst (v := 4) dX7_priceOf_13 (by decide) ?_
    refine ev_iload_n dX7_priceOf_14 rfl rfl ?_
    refine ev_imul (v := nI (4 * p)) dX7_priceOf_15 (pk_mul 4 p) ?_
    refine ev_iload_n dX7_priceOf_16 rfl rfl ?_
    refine ev_iadd (v := nI (4 * p + 2)) dX7_priceOf_17 (nI_add (4 * p) 2) ?_
    refine ev_iald (v := A 70 (4 * p + 2)) dX7_priceOf_18 (ly_k hI.ly 70 rfl) (am_ixn (by omega) (by decide)) (hI.rd 70 (4 * p + 2) rfl) ?_
    refine ev_aload_n dX7_priceOf_19 rfl rfl ?_
    refine ev_getR (b := 70) dX7_priceOf_20 fl_X7_22 (ly_k hI.ly 65 rfl) (ly_r hI.ly 33 rfl) ?_
    refine ev_iconst (v := 4) dX7_priceOf_23 (by decide) ?_
    refine ev_iload_n dX7_priceOf_24 rfl rfl ?_
    refine ev_imul (v := nI (4 * p)) dX7_priceOf_25 (pk_mul 4 p) ?_
    refine ev_iload_n dX7_priceOf_26 rfl rfl ?_
    refine ev_iadd (v := nI (4 * p + 0)) dX7_priceOf_27 (nI_add (4 * p) 0) ?_
    refine ev_iald (v := A 70 (4 * p + 0)) dX7_priceOf_28 (ly_k hI.ly 70 rfl) (am_ixn (by omega) (by decide)) (hI.rd 70 (4 * p + 0) rfl) ?_
    refine ev_icmp_le (tgt := 36) dX7_priceOf_29 (by decide) (fun c2 => ?_) (fun c2 => ?_)
    · skip
      refine ev_iload_n dX7_priceOf_36 rfl rfl ?_
      refine ev_istore_n (lv' := [(0, .ref 65), (1, .int (nI p)), (2, .int 0), (3, .int 2)]) dX7_priceOf_37 rfl (by decide) rfl ?_
      refine ev_iinc (lv' := [(0, .ref 65), (1, .int (nI p)), (2, .int 0), (3, .int 3)]) (v := 3) dX7_priceOf_38 rfl (by decide) (by decide) rfl ?_
      refine ev_goto (tgt := 4) dX7_priceOf_41 (by decide) ?_
      refine ev_iload_n dX7_priceOf_4 rfl rfl ?_
      refine ev_iconst (v := 4) dX7_priceOf_5 (by decide) ?_
      refine ev_icmp_ge (tgt := 44) dX7_priceOf_6 (by decide) (fun c => absurd c (by decide)) (fun _ => ?_)
      refine ev_aload_n dX7_priceOf_9 rfl rfl ?_
      refine ev_getR (b := 70) dX7_priceOf_10 fl_X7_22 (ly_k hI.ly 65 rfl) (ly_r hI.ly 33 rfl) ?_
      refine ev_iconst (v := 4) dX7_priceOf_13 (by decide) ?_
      refine ev_iload_n dX7_priceOf_14 rfl rfl ?_
      refine ev_imul (v := nI (4 * p)) dX7_priceOf_15 (pk_mul 4 p) ?_
      refine ev_iload_n dX7_priceOf_16 rfl rfl ?_
      refine ev_iadd (v := nI (4 * p + 3)) dX7_priceOf_17 (nI_add (4 * p) 3) ?_
      refine ev_iald (v := A 70 (4 * p + 3)) dX7_priceOf_18 (ly_k hI.ly 70 rfl) (am_ixn (by omega) (by decide)) (hI.rd 70 (4 * p + 3) rfl) ?_
      refine ev_aload_n dX7_priceOf_19 rfl rfl ?_
      refine ev_getR (b := 70) dX7_priceOf_20 fl_X7_22 (ly_k hI.ly 65 rfl) (ly_r hI.ly 33 rfl) ?_
      refine ev_iconst (v := 4) dX7_priceOf_23 (by decide) ?_
      refine ev_iload_n dX7_priceOf_24 rfl rfl ?_
      refine ev_imul (v := nI (4 * p)) dX7_priceOf_25 (pk_mul 4 p) ?_
      refine ev_iload_n dX7_priceOf_26 rfl rfl ?_
      refine ev_iadd (v := nI (4 * p + 0)) dX7_priceOf_27 (nI_add (4 * p) 0) ?_
      refine ev_iald (v := A 70 (4 * p + 0)) dX7_priceOf_28 (ly_k hI.ly 70 rfl) (am_ixn (by omega) (by decide)) (hI.rd 70 (4 * p + 0) rfl) ?_
      refine ev_icmp_le (tgt := 36) dX7_priceOf_29 (by decide) (fun c3 => ?_) (fun c3 => ?_)
      · skip
        refine ev_iload_n dX7_priceOf_36 rfl rfl ?_
        refine ev_istore_n (lv' := [(0, .ref 65), (1, .int (nI p)), (2, .int 0), (3, .int 3)]) dX7_priceOf_37 rfl (by decide) rfl ?_
        refine ev_iinc (lv' := [(0, .ref 65), (1, .int (nI p)), (2, .int 0), (3, .int 4)]) (v := 4) dX7_priceOf_38 rfl (by decide) (by decide) rfl ?_
        refine ev_goto (tgt := 4) dX7_priceOf_41 (by decide) ?_
        refine ev_iload_n dX7_priceOf_4 rfl rfl ?_
        refine ev_iconst (v := 4) dX7_priceOf_5 (by decide) ?_
        refine ev_icmp_ge (tgt := 44) dX7_priceOf_6 (by decide) (fun _ => ?_) (fun c => absurd (by decide) c)
        refine ev_aload_n dX7_priceOf_44 rfl rfl ?_
        refine ev_iconst (v := 2) dX7_priceOf_45 (by decide) ?_
        refine ev_aload_n dX7_priceOf_46 rfl rfl ?_
        refine ev_getR (b := 70) dX7_priceOf_47 fl_X7_22 (ly_k hI.ly 65 rfl) (ly_r hI.ly 33 rfl) ?_
        refine ev_iconst (v := 4) dX7_priceOf_50 (by decide) ?_
        refine ev_iload_n dX7_priceOf_51 rfl rfl ?_
        refine ev_imul (v := nI (4 * p)) dX7_priceOf_52 (pk_mul 4 p) ?_
        refine ev_iload_n dX7_priceOf_53 rfl rfl ?_
        refine ev_iadd (v := nI (4 * p + 0)) dX7_priceOf_54 (nI_add (4 * p) 0) ?_
        refine ev_iald (v := A 70 (4 * p + 0)) dX7_priceOf_55 (ly_k hI.ly 70 rfl) (am_ixn (by omega) (by decide)) (hI.rd 70 (4 * p + 0) rfl) ?_
        refine ev_iconst (v := 0) dX7_priceOf_56 (by decide) ?_
        refine ev_aload_n dX7_priceOf_57 rfl rfl ?_
        refine ev_getR (b := 67) dX7_priceOf_58 fl_X7_13 (ly_k hI.ly 65 rfl) (ly_r hI.ly 30 rfl) ?_
        refine ev_iload_n dX7_priceOf_61 rfl rfl ?_
        refine ev_iald (v := A 67 p) dX7_priceOf_62 (ly_k hI.ly 67 rfl) (am_ixn (by omega) (by decide)) (hI.rd 67 p rfl) ?_
        refine ev_iload_n dX7_priceOf_63 rfl rfl ?_
        refine ev_iconst (v := 0) dX7_priceOf_64 (by decide) ?_
        refine ev_iload_n dX7_priceOf_65 rfl rfl ?_
        refine ev_callV (as := [.int 2, .int (A 70 (4 * p + 0)), .int 0, .int (A 67 p), .int 0, .int 0, .int (nI p)]) (st := []) dX7_priceOf_66 mfX7_asksOf lk_X7_173 (ly_k hI.ly 65 rfl) (by decide) rfl (c_X7_asksOf G D A σ hA hI 2 (by omega) (A 70 (4 * p + 0)) 0 (A 67 p) 0 0 (nI p)) rfl rfl (Nat.le_of_ble_eq_true rfl) (am_hR (by omega) (by decide)) ⟨Nat.le_refl _, Nat.le_refl _⟩ ?_
        rintro _ σ4 ⟨rfl, hI4, hF4⟩
        refine ev_reti dX7_priceOf_69 rfl (Nat.zero_le _) (Nat.zero_le _) ?_
        have e1 : s_d1 A p = 0 := by unfold s_d1; exact if_neg (Int32.not_lt.mpr c1)
        have e2 : s_d2 A p = 0 := by unfold s_d2; rw [e1]; exact if_neg (Int32.not_lt.mpr c2)
        have e3 : s_dt A p = 0 := by unfold s_dt; rw [e2]; exact if_neg (Int32.not_lt.mpr c3)
        exact ⟨by unfold s_pr; rw [e3]; rfl, hI4, (fr_M.tr fr_M.rf hF4)⟩
      · skip
        refine ev_iload_n dX7_priceOf_32 rfl rfl ?_
        refine ev_goto (tgt := 37) dX7_priceOf_33 (by decide) ?_
        refine ev_istore_n (lv' := [(0, .ref 65), (1, .int (nI p)), (2, .int 3), (3, .int 3)]) dX7_priceOf_37 rfl (by decide) rfl ?_
        refine ev_iinc (lv' := [(0, .ref 65), (1, .int (nI p)), (2, .int 3), (3, .int 4)]) (v := 4) dX7_priceOf_38 rfl (by decide) (by decide) rfl ?_
        refine ev_goto (tgt := 4) dX7_priceOf_41 (by decide) ?_
        refine ev_iload_n dX7_priceOf_4 rfl rfl ?_
        refine ev_iconst (v := 4) dX7_priceOf_5 (by decide) ?_
        refine ev_icmp_ge (tgt := 44) dX7_priceOf_6 (by decide) (fun _ => ?_) (fun c => absurd (by decide) c)
        refine ev_aload_n dX7_priceOf_44 rfl rfl ?_
        refine ev_iconst (v := 2) dX7_priceOf_45 (by decide) ?_
        refine ev_aload_n dX7_priceOf_46 rfl rfl ?_
        refine ev_getR (b := 70) dX7_priceOf_47 fl_X7_22 (ly_k hI.ly 65 rfl) (ly_r hI.ly 33 rfl) ?_
        refine ev_iconst (v := 4) dX7_priceOf_50 (by decide) ?_
        refine ev_iload_n dX7_priceOf_51 rfl rfl ?_
        refine ev_imul (v := nI (4 * p)) dX7_priceOf_52 (pk_mul 4 p) ?_
        refine ev_iload_n dX7_priceOf_53 rfl rfl ?_
        refine ev_iadd (v := nI (4 * p + 3)) dX7_priceOf_54 (nI_add (4 * p) 3) ?_
        refine ev_iald (v := A 70 (4 * p + 3)) dX7_priceOf_55 (ly_k hI.ly 70 rfl) (am_ixn (by omega) (by decide)) (hI.rd 70 (4 * p + 3) rfl) ?_
        refine ev_iconst (v := 0) dX7_priceOf_56 (by decide) ?_
        refine ev_aload_n dX7_priceOf_57 rfl rfl ?_
        refine ev_getR (b := 67) dX7_priceOf_58 fl_X7_13 (ly_k hI.ly 65 rfl) (ly_r hI.ly 30 rfl) ?_
        refine ev_iload_n dX7_priceOf_61 rfl rfl ?_
        refine ev_iald (v := A 67 p) dX7_priceOf_62 (ly_k hI.ly 67 rfl) (am_ixn (by omega) (by decide)) (hI.rd 67 p rfl) ?_
        refine ev_iload_n dX7_priceOf_63 rfl rfl ?_
        refine ev_iconst (v := 0) dX7_priceOf_64 (by decide) ?_
        refine ev_iload_n dX7_priceOf_65 rfl rfl ?_
        refine ev_callV (as := [.int 2, .int (A 70 (4 * p + 3)), .int 0, .int (A 67 p), .int 3, .int 0, .int (nI p)]) (st := []) dX7_priceOf_66 mfX7_asksOf lk_X7_173 (ly_k hI.ly 65 rfl) (by decide) rfl (c_X7_asksOf G D A σ hA hI 2 (by omega) (A 70 (4 * p + 3)) 0 (A 67 p) 3 0 (nI p)) rfl rfl (Nat.le_of_ble_eq_true rfl) (am_hR (by omega) (by decide)) ⟨Nat.le_refl _, Nat.le_refl _⟩ ?_
        rintro _ σ5 ⟨rfl, hI5, hF5⟩
        refine ev_reti dX7_priceOf_69 rfl (Nat.zero_le _) (Nat.zero_le _) ?_
        have e1 : s_d1 A p = 0 := by unfold s_d1; exact if_neg (Int32.not_lt.mpr c1)
        have e2 : s_d2 A p = 0 := by unfold s_d2; rw [e1]; exact if_neg (Int32.not_lt.mpr c2)
        have e3 : s_dt A p = 3 := by unfold s_dt; rw [e2]; exact if_pos (Int32.not_le.mp c3)
        exact ⟨by unfold s_pr; rw [e3]; rfl, hI5, (fr_M.tr fr_M.rf hF5)⟩
    · skip
      refine ev_iload_n dX7_priceOf_32 rfl rfl ?_
      refine ev_goto (tgt := 37) dX7_priceOf_33 (by decide) ?_
      refine ev_istore_n (lv' := [(0, .ref 65), (1, .int (nI p)), (2, .int 2), (3, .int 2)]) dX7_priceOf_37 rfl (by decide) rfl ?_
      refine ev_iinc (lv' := [(0, .ref 65), (1, .int (nI p)), (2, .int 2), (3, .int 3)]) (v := 3) dX7_priceOf_38 rfl (by decide) (by decide) rfl ?_
      refine ev_goto (tgt := 4) dX7_priceOf_41 (by decide) ?_
      refine ev_iload_n dX7_priceOf_4 rfl rfl ?_
      refine ev_iconst (v := 4) dX7_priceOf_5 (by decide) ?_
      refine ev_icmp_ge (tgt := 44) dX7_priceOf_6 (by decide) (fun c => absurd c (by decide)) (fun _ => ?_)
      refine ev_aload_n dX7_priceOf_9 rfl rfl ?_
      refine ev_getR (b := 70) dX7_priceOf_10 fl_X7_22 (ly_k hI.ly 65 rfl) (ly_r hI.ly 33 rfl) ?_
      refine ev_iconst (v := 4) dX7_priceOf_13 (by decide) ?_
      refine ev_iload_n dX7_priceOf_14 rfl rfl ?_
      refine ev_imul (v := nI (4 * p)) dX7_priceOf_15 (pk_mul 4 p) ?_
      refine ev_iload_n dX7_priceOf_16 rfl rfl ?_
      refine ev_iadd (v := nI (4 * p + 3)) dX7_priceOf_17 (nI_add (4 * p) 3) ?_
      refine ev_iald (v := A 70 (4 * p + 3)) dX7_priceOf_18 (ly_k hI.ly 70 rfl) (am_ixn (by omega) (by decide)) (hI.rd 70 (4 * p + 3) rfl) ?_
      refine ev_aload_n dX7_priceOf_19 rfl rfl ?_
      refine ev_getR (b := 70) dX7_priceOf_20 fl_X7_22 (ly_k hI.ly 65 rfl) (ly_r hI.ly 33 rfl) ?_
      refine ev_iconst (v := 4) dX7_priceOf_23 (by decide) ?_
      refine ev_iload_n dX7_priceOf_24 rfl rfl ?_
      refine ev_imul (v := nI (4 * p)) dX7_priceOf_25 (pk_mul 4 p) ?_
      refine ev_iload_n dX7_priceOf_26 rfl rfl ?_
      refine ev_iadd (v := nI (4 * p + 2)) dX7_priceOf_27 (nI_add (4 * p) 2) ?_
      refine ev_iald (v := A 70 (4 * p + 2)) dX7_priceOf_28 (ly_k hI.ly 70 rfl) (am_ixn (by omega) (by decide)) (hI.rd 70 (4 * p + 2) rfl) ?_
      refine ev_icmp_le (tgt := 36) dX7_priceOf_29 (by decide) (fun c6 => ?_) (fun c6 => ?_)
      · skip
        refine ev_iload_n dX7_priceOf_36 rfl rfl ?_
        refine ev_istore_n (lv' := [(0, .ref 65), (1, .int (nI p)), (2, .int 2), (3, .int 3)]) dX7_priceOf_37 rfl (by decide) rfl ?_
        refine ev_iinc (lv' := [(0, .ref 65), (1, .int (nI p)), (2, .int 2), (3, .int 4)]) (v := 4) dX7_priceOf_38 rfl (by decide) (by decide) rfl ?_
        refine ev_goto (tgt := 4) dX7_priceOf_41 (by decide) ?_
        refine ev_iload_n dX7_priceOf_4 rfl rfl ?_
        refine ev_iconst (v := 4) dX7_priceOf_5 (by decide) ?_
        refine ev_icmp_ge (tgt := 44) dX7_priceOf_6 (by decide) (fun _ => ?_) (fun c => absurd (by decide) c)
        refine ev_aload_n dX7_priceOf_44 rfl rfl ?_
        refine ev_iconst (v := 2) dX7_priceOf_45 (by decide) ?_
        refine ev_aload_n dX7_priceOf_46 rfl rfl ?_
        refine ev_getR (b := 70) dX7_priceOf_47 fl_X7_22 (ly_k hI.ly 65 rfl) (ly_r hI.ly 33 rfl) ?_
        refine ev_iconst (v := 4) dX7_priceOf_50 (by decide) ?_
        refine ev_iload_n dX7_priceOf_51 rfl rfl ?_
        refine ev_imul (v := nI (4 * p)) dX7_priceOf_52 (pk_mul 4 p) ?_
        refine ev_iload_n dX7_priceOf_53 rfl rfl ?_
        refine ev_iadd (v := nI (4 * p + 2)) dX7_priceOf_54 (nI_add (4 * p) 2) ?_
        refine ev_iald (v := A 70 (4 * p + 2)) dX7_priceOf_55 (ly_k hI.ly 70 rfl) (am_ixn (by omega) (by decide)) (hI.rd 70 (4 * p + 2) rfl) ?_
        refine ev_iconst (v := 0) dX7_priceOf_56 (by decide) ?_
        refine ev_aload_n dX7_priceOf_57 rfl rfl ?_
        refine ev_getR (b := 67) dX7_priceOf_58 fl_X7_13 (ly_k hI.ly 65 rfl) (ly_r hI.ly 30 rfl) ?_
        refine ev_iload_n dX7_priceOf_61 rfl rfl ?_
        refine ev_iald (v := A 67 p) dX7_priceOf_62 (ly_k hI.ly 67 rfl) (am_ixn (by omega) (by decide)) (hI.rd 67 p rfl) ?_
        refine ev_iload_n dX7_priceOf_63 rfl rfl ?_
        refine ev_iconst (v := 0) dX7_priceOf_64 (by decide) ?_
        refine ev_iload_n dX7_priceOf_65 rfl rfl ?_
        refine ev_callV (as := [.int 2, .int (A 70 (4 * p + 2)), .int 0, .int (A 67 p), .int 2, .int 0, .int (nI p)]) (st := []) dX7_priceOf_66 mfX7_asksOf lk_X7_173 (ly_k hI.ly 65 rfl) (by decide) rfl (c_X7_asksOf G D A σ hA hI 2 (by omega) (A 70 (4 * p + 2)) 0 (A 67 p) 2 0 (nI p)) rfl rfl (Nat.le_of_ble_eq_true rfl) (am_hR (by omega) (by decide)) ⟨Nat.le_refl _, Nat.le_refl _⟩ ?_
        rintro _ σ7 ⟨rfl, hI7, hF7⟩
        refine ev_reti dX7_priceOf_69 rfl (Nat.zero_le _) (Nat.zero_le _) ?_
        have e1 : s_d1 A p = 0 := by unfold s_d1; exact if_neg (Int32.not_lt.mpr c1)
        have e2 : s_d2 A p = 2 := by unfold s_d2; rw [e1]; exact if_pos (Int32.not_le.mp c2)
        have e3 : s_dt A p = 2 := by unfold s_dt; rw [e2]; exact if_neg (Int32.not_lt.mpr c6)
        exact ⟨by unfold s_pr; rw [e3]; rfl, hI7, (fr_M.tr fr_M.rf hF7)⟩
      · skip
        refine ev_iload_n dX7_priceOf_32 rfl rfl ?_
        refine ev_goto (tgt := 37) dX7_priceOf_33 (by decide) ?_
        refine ev_istore_n (lv' := [(0, .ref 65), (1, .int (nI p)), (2, .int 3), (3, .int 3)]) dX7_priceOf_37 rfl (by decide) rfl ?_
        refine ev_iinc (lv' := [(0, .ref 65), (1, .int (nI p)), (2, .int 3), (3, .int 4)]) (v := 4) dX7_priceOf_38 rfl (by decide) (by decide) rfl ?_
        refine ev_goto (tgt := 4) dX7_priceOf_41 (by decide) ?_
        refine ev_iload_n dX7_priceOf_4 rfl rfl ?_
        refine ev_iconst (v := 4) dX7_priceOf_5 (by decide) ?_
        refine ev_icmp_ge (tgt := 44) dX7_priceOf_6 (by decide) (fun _ => ?_) (fun c => absurd (by decide) c)
        refine ev_aload_n dX7_priceOf_44 rfl rfl ?_
        refine ev_iconst (v := 2) dX7_priceOf_45 (by decide) ?_
        refine ev_aload_n dX7_priceOf_46 rfl rfl ?_
        refine ev_getR (b := 70) dX7_priceOf_47 fl_X7_22 (ly_k hI.ly 65 rfl) (ly_r hI.ly 33 rfl) ?_
        refine ev_iconst (v := 4) dX7_priceOf_50 (by decide) ?_
        refine ev_iload_n dX7_priceOf_51 rfl rfl ?_
        refine ev_imul (v := nI (4 * p)) dX7_priceOf_52 (pk_mul 4 p) ?_
        refine ev_iload_n dX7_priceOf_53 rfl rfl ?_
        refine ev_iadd (v := nI (4 * p + 3)) dX7_priceOf_54 (nI_add (4 * p) 3) ?_
        refine ev_iald (v := A 70 (4 * p + 3)) dX7_priceOf_55 (ly_k hI.ly 70 rfl) (am_ixn (by omega) (by decide)) (hI.rd 70 (4 * p + 3) rfl) ?_
        refine ev_iconst (v := 0) dX7_priceOf_56 (by decide) ?_
        refine ev_aload_n dX7_priceOf_57 rfl rfl ?_
        refine ev_getR (b := 67) dX7_priceOf_58 fl_X7_13 (ly_k hI.ly 65 rfl) (ly_r hI.ly 30 rfl) ?_
        refine ev_iload_n dX7_priceOf_61 rfl rfl ?_
        refine ev_iald (v := A 67 p) dX7_priceOf_62 (ly_k hI.ly 67 rfl) (am_ixn (by omega) (by decide)) (hI.rd 67 p rfl) ?_
        refine ev_iload_n dX7_priceOf_63 rfl rfl ?_
        refine ev_iconst (v := 0) dX7_priceOf_64 (by decide) ?_
        refine ev_iload_n dX7_priceOf_65 rfl rfl ?_
        refine ev_callV (as := [.int 2, .int (A 70 (4 * p + 3)), .int 0, .int (A 67 p), .int 3, .int 0, .int (nI p)]) (st := []) dX7_priceOf_66 mfX7_asksOf lk_X7_173 (ly_k hI.ly 65 rfl) (by decide) rfl (c_X7_asksOf G D A σ hA hI 2 (by omega) (A 70 (4 * p + 3)) 0 (A 67 p) 3 0 (nI p)) rfl rfl (Nat.le_of_ble_eq_true rfl) (am_hR (by omega) (by decide)) ⟨Nat.le_refl _, Nat.le_refl _⟩ ?_
        rintro _ σ8 ⟨rfl, hI8, hF8⟩
        refine ev_reti dX7_priceOf_69 rfl (Nat.zero_le _) (Nat.zero_le _) ?_
        have e1 : s_d1 A p = 0 := by unfold s_d1; exact if_neg (Int32.not_lt.mpr c1)
        have e2 : s_d2 A p = 2 := by unfold s_d2; rw [e1]; exact if_pos (Int32.not_le.mp c2)
        have e3 : s_dt A p = 3 := by unfold s_dt; rw [e2]; exact if_pos (Int32.not_le.mp c6)
        exact ⟨by unfold s_pr; rw [e3]; rfl, hI8, (fr_M.tr fr_M.rf hF8)⟩
  · skip
    refine ev_iload_n dX7_priceOf_32 rfl rfl ?_
    refine ev_goto (tgt := 37) dX7_priceOf_33 (by decide) ?_
    refine ev_istore_n (lv' := [(0, .ref 65), (1, .int (nI p)), (2, .int 1), (3, .int 1)]) dX7_priceOf_37 rfl (by decide) rfl ?_
    refine ev_iinc (lv' := [(0, .ref 65), (1, .int (nI p)), (2, .int 1), (3, .int 2)]) (v := 2) dX7_priceOf_38 rfl (by decide) (by decide) rfl ?_
    refine ev_goto (tgt := 4) dX7_priceOf_41 (by decide) ?_
    refine ev_iload_n dX7_priceOf_4 rfl rfl ?_
    refine ev_iconst (v := 4) dX7_priceOf_5 (by decide) ?_
    refine ev_icmp_ge (tgt := 44) dX7_priceOf_6 (by decide) (fun c => absurd c (by decide)) (fun _ => ?_)
    refine ev_aload_n dX7_priceOf_9 rfl rfl ?_
    refine ev_getR (b := 70) dX7_priceOf_10 fl_X7_22 (ly_k hI.ly 65 rfl) (ly_r hI.ly 33 rfl) ?_
    refine ev_iconst (v := 4) dX7_priceOf_13 (by decide) ?_
    refine ev_iload_n dX7_priceOf_14 rfl rfl ?_
    refine ev_imul (v := nI (4 * p)) dX7_priceOf_15 (pk_mul 4 p) ?_
    refine ev_iload_n dX7_priceOf_16 rfl rfl ?_
    refine ev_iadd (v := nI (4 * p + 2)) dX7_priceOf_17 (nI_add (4 * p) 2) ?_
    refine ev_iald (v := A 70 (4 * p + 2)) dX7_priceOf_18 (ly_k hI.ly 70 rfl) (am_ixn (by omega) (by decide)) (hI.rd 70 (4 * p + 2) rfl) ?_
    refine ev_aload_n dX7_priceOf_19 rfl rfl ?_
    refine ev_getR (b := 70) dX7_priceOf_20 fl_X7_22 (ly_k hI.ly 65 rfl) (ly_r hI.ly 33 rfl) ?_
    refine ev_iconst (v := 4) dX7_priceOf_23 (by decide) ?_
    refine ev_iload_n dX7_priceOf_24 rfl rfl ?_
    refine ev_imul (v := nI (4 * p)) dX7_priceOf_25 (pk_mul 4 p) ?_
    refine ev_iload_n dX7_priceOf_26 rfl rfl ?_
    refine ev_iadd (v := nI (4 * p + 1)) dX7_priceOf_27 (nI_1 _) ?_
    refine ev_iald (v := A 70 (4 * p + 1)) dX7_priceOf_28 (ly_k hI.ly 70 rfl) (am_ixn (by omega) (by decide)) (hI.rd 70 (4 * p + 1) rfl) ?_
    refine ev_icmp_le (tgt := 36) dX7_priceOf_29 (by decide) (fun c9 => ?_) (fun c9 => ?_)
    · skip
      refine ev_iload_n dX7_priceOf_36 rfl rfl ?_
      refine ev_istore_n (lv' := [(0, .ref 65), (1, .int (nI p)), (2, .int 1), (3, .int 2)]) dX7_priceOf_37 rfl (by decide) rfl ?_
      refine ev_iinc (lv' := [(0, .ref 65), (1, .int (nI p)), (2, .int 1), (3, .int 3)]) (v := 3) dX7_priceOf_38 rfl (by decide) (by decide) rfl ?_
      refine ev_goto (tgt := 4) dX7_priceOf_41 (by decide) ?_
      refine ev_iload_n dX7_priceOf_4 rfl rfl ?_
      refine ev_iconst (v := 4) dX7_priceOf_5 (by decide) ?_
      refine ev_icmp_ge (tgt := 44) dX7_priceOf_6 (by decide) (fun c => absurd c (by decide)) (fun _ => ?_)
      refine ev_aload_n dX7_priceOf_9 rfl rfl ?_
      refine ev_getR (b := 70) dX7_priceOf_10 fl_X7_22 (ly_k hI.ly 65 rfl) (ly_r hI.ly 33 rfl) ?_
      refine ev_iconst (v := 4) dX7_priceOf_13 (by decide) ?_
      refine ev_iload_n dX7_priceOf_14 rfl rfl ?_
      refine ev_imul (v := nI (4 * p)) dX7_priceOf_15 (pk_mul 4 p) ?_
      refine ev_iload_n dX7_priceOf_16 rfl rfl ?_
      refine ev_iadd (v := nI (4 * p + 3)) dX7_priceOf_17 (nI_add (4 * p) 3) ?_
      refine ev_iald (v := A 70 (4 * p + 3)) dX7_priceOf_18 (ly_k hI.ly 70 rfl) (am_ixn (by omega) (by decide)) (hI.rd 70 (4 * p + 3) rfl) ?_
      refine ev_aload_n dX7_priceOf_19 rfl rfl ?_
      refine ev_getR (b := 70) dX7_priceOf_20 fl_X7_22 (ly_k hI.ly 65 rfl) (ly_r hI.ly 33 rfl) ?_
      refine ev_iconst (v := 4) dX7_priceOf_23 (by decide) ?_
      refine ev_iload_n dX7_priceOf_24 rfl rfl ?_
      refine ev_imul (v := nI (4 * p)) dX7_priceOf_25 (pk_mul 4 p) ?_
      refine ev_iload_n dX7_priceOf_26 rfl rfl ?_
      refine ev_iadd (v := nI (4 * p + 1)) dX7_priceOf_27 (nI_1 _) ?_
      refine ev_iald (v := A 70 (4 * p + 1)) dX7_priceOf_28 (ly_k hI.ly 70 rfl) (am_ixn (by omega) (by decide)) (hI.rd 70 (4 * p + 1) rfl) ?_
      refine ev_icmp_le (tgt := 36) dX7_priceOf_29 (by decide) (fun c10 => ?_) (fun c10 => ?_)
      · skip
        refine ev_iload_n dX7_priceOf_36 rfl rfl ?_
        refine ev_istore_n (lv' := [(0, .ref 65), (1, .int (nI p)), (2, .int 1), (3, .int 3)]) dX7_priceOf_37 rfl (by decide) rfl ?_
        refine ev_iinc (lv' := [(0, .ref 65), (1, .int (nI p)), (2, .int 1), (3, .int 4)]) (v := 4) dX7_priceOf_38 rfl (by decide) (by decide) rfl ?_
        refine ev_goto (tgt := 4) dX7_priceOf_41 (by decide) ?_
        refine ev_iload_n dX7_priceOf_4 rfl rfl ?_
        refine ev_iconst (v := 4) dX7_priceOf_5 (by decide) ?_
        refine ev_icmp_ge (tgt := 44) dX7_priceOf_6 (by decide) (fun _ => ?_) (fun c => absurd (by decide) c)
        refine ev_aload_n dX7_priceOf_44 rfl rfl ?_
        refine ev_iconst (v := 2) dX7_priceOf_45 (by decide) ?_
        refine ev_aload_n dX7_priceOf_46 rfl rfl ?_
        refine ev_getR (b := 70) dX7_priceOf_47 fl_X7_22 (ly_k hI.ly 65 rfl) (ly_r hI.ly 33 rfl) ?_
        refine ev_iconst (v := 4) dX7_priceOf_50 (by decide) ?_
        refine ev_iload_n dX7_priceOf_51 rfl rfl ?_
        refine ev_imul (v := nI (4 * p)) dX7_priceOf_52 (pk_mul 4 p) ?_
        refine ev_iload_n dX7_priceOf_53 rfl rfl ?_
        refine ev_iadd (v := nI (4 * p + 1)) dX7_priceOf_54 (nI_1 _) ?_
        refine ev_iald (v := A 70 (4 * p + 1)) dX7_priceOf_55 (ly_k hI.ly 70 rfl) (am_ixn (by omega) (by decide)) (hI.rd 70 (4 * p + 1) rfl) ?_
        refine ev_iconst (v := 0) dX7_priceOf_56 (by decide) ?_
        refine ev_aload_n dX7_priceOf_57 rfl rfl ?_
        refine ev_getR (b := 67) dX7_priceOf_58 fl_X7_13 (ly_k hI.ly 65 rfl) (ly_r hI.ly 30 rfl) ?_
        refine ev_iload_n dX7_priceOf_61 rfl rfl ?_
        refine ev_iald (v := A 67 p) dX7_priceOf_62 (ly_k hI.ly 67 rfl) (am_ixn (by omega) (by decide)) (hI.rd 67 p rfl) ?_
        refine ev_iload_n dX7_priceOf_63 rfl rfl ?_
        refine ev_iconst (v := 0) dX7_priceOf_64 (by decide) ?_
        refine ev_iload_n dX7_priceOf_65 rfl rfl ?_
        refine ev_callV (as := [.int 2, .int (A 70 (4 * p + 1)), .int 0, .int (A 67 p), .int 1, .int 0, .int (nI p)]) (st := []) dX7_priceOf_66 mfX7_asksOf lk_X7_173 (ly_k hI.ly 65 rfl) (by decide) rfl (c_X7_asksOf G D A σ hA hI 2 (by omega) (A 70 (4 * p + 1)) 0 (A 67 p) 1 0 (nI p)) rfl rfl (Nat.le_of_ble_eq_true rfl) (am_hR (by omega) (by decide)) ⟨Nat.le_refl _, Nat.le_refl _⟩ ?_
        rintro _ σ11 ⟨rfl, hI11, hF11⟩
        refine ev_reti dX7_priceOf_69 rfl (Nat.zero_le _) (Nat.zero_le _) ?_
        have e1 : s_d1 A p = 1 := by unfold s_d1; exact if_pos (Int32.not_le.mp c1)
        have e2 : s_d2 A p = 1 := by unfold s_d2; rw [e1]; exact if_neg (Int32.not_lt.mpr c9)
        have e3 : s_dt A p = 1 := by unfold s_dt; rw [e2]; exact if_neg (Int32.not_lt.mpr c10)
        exact ⟨by unfold s_pr; rw [e3]; rfl, hI11, (fr_M.tr fr_M.rf hF11)⟩
      · skip
        refine ev_iload_n dX7_priceOf_32 rfl rfl ?_
        refine ev_goto (tgt := 37) dX7_priceOf_33 (by decide) ?_
        refine ev_istore_n (lv' := [(0, .ref 65), (1, .int (nI p)), (2, .int 3), (3, .int 3)]) dX7_priceOf_37 rfl (by decide) rfl ?_
        refine ev_iinc (lv' := [(0, .ref 65), (1, .int (nI p)), (2, .int 3), (3, .int 4)]) (v := 4) dX7_priceOf_38 rfl (by decide) (by decide) rfl ?_
        refine ev_goto (tgt := 4) dX7_priceOf_41 (by decide) ?_
        refine ev_iload_n dX7_priceOf_4 rfl rfl ?_
        refine ev_iconst (v := 4) dX7_priceOf_5 (by decide) ?_
        refine ev_icmp_ge (tgt := 44) dX7_priceOf_6 (by decide) (fun _ => ?_) (fun c => absurd (by decide) c)
        refine ev_aload_n dX7_priceOf_44 rfl rfl ?_
        refine ev_iconst (v := 2) dX7_priceOf_45 (by decide) ?_
        refine ev_aload_n dX7_priceOf_46 rfl rfl ?_
        refine ev_getR (b := 70) dX7_priceOf_47 fl_X7_22 (ly_k hI.ly 65 rfl) (ly_r hI.ly 33 rfl) ?_
        refine ev_iconst (v := 4) dX7_priceOf_50 (by decide) ?_
        refine ev_iload_n dX7_priceOf_51 rfl rfl ?_
        refine ev_imul (v := nI (4 * p)) dX7_priceOf_52 (pk_mul 4 p) ?_
        refine ev_iload_n dX7_priceOf_53 rfl rfl ?_
        refine ev_iadd (v := nI (4 * p + 3)) dX7_priceOf_54 (nI_add (4 * p) 3) ?_
        refine ev_iald (v := A 70 (4 * p + 3)) dX7_priceOf_55 (ly_k hI.ly 70 rfl) (am_ixn (by omega) (by decide)) (hI.rd 70 (4 * p + 3) rfl) ?_
        refine ev_iconst (v := 0) dX7_priceOf_56 (by decide) ?_
        refine ev_aload_n dX7_priceOf_57 rfl rfl ?_
        refine ev_getR (b := 67) dX7_priceOf_58 fl_X7_13 (ly_k hI.ly 65 rfl) (ly_r hI.ly 30 rfl) ?_
        refine ev_iload_n dX7_priceOf_61 rfl rfl ?_
        refine ev_iald (v := A 67 p) dX7_priceOf_62 (ly_k hI.ly 67 rfl) (am_ixn (by omega) (by decide)) (hI.rd 67 p rfl) ?_
        refine ev_iload_n dX7_priceOf_63 rfl rfl ?_
        refine ev_iconst (v := 0) dX7_priceOf_64 (by decide) ?_
        refine ev_iload_n dX7_priceOf_65 rfl rfl ?_
        refine ev_callV (as := [.int 2, .int (A 70 (4 * p + 3)), .int 0, .int (A 67 p), .int 3, .int 0, .int (nI p)]) (st := []) dX7_priceOf_66 mfX7_asksOf lk_X7_173 (ly_k hI.ly 65 rfl) (by decide) rfl (c_X7_asksOf G D A σ hA hI 2 (by omega) (A 70 (4 * p + 3)) 0 (A 67 p) 3 0 (nI p)) rfl rfl (Nat.le_of_ble_eq_true rfl) (am_hR (by omega) (by decide)) ⟨Nat.le_refl _, Nat.le_refl _⟩ ?_
        rintro _ σ12 ⟨rfl, hI12, hF12⟩
        refine ev_reti dX7_priceOf_69 rfl (Nat.zero_le _) (Nat.zero_le _) ?_
        have e1 : s_d1 A p = 1 := by unfold s_d1; exact if_pos (Int32.not_le.mp c1)
        have e2 : s_d2 A p = 1 := by unfold s_d2; rw [e1]; exact if_neg (Int32.not_lt.mpr c9)
        have e3 : s_dt A p = 3 := by unfold s_dt; rw [e2]; exact if_pos (Int32.not_le.mp c10)
        exact ⟨by unfold s_pr; rw [e3]; rfl, hI12, (fr_M.tr fr_M.rf hF12)⟩
    · skip
      refine ev_iload_n dX7_priceOf_32 rfl rfl ?_
      refine ev_goto (tgt := 37) dX7_priceOf_33 (by decide) ?_
      refine ev_istore_n (lv' := [(0, .ref 65), (1, .int (nI p)), (2, .int 2), (3, .int 2)]) dX7_priceOf_37 rfl (by decide) rfl ?_
      refine ev_iinc (lv' := [(0, .ref 65), (1, .int (nI p)), (2, .int 2), (3, .int 3)]) (v := 3) dX7_priceOf_38 rfl (by decide) (by decide) rfl ?_
      refine ev_goto (tgt := 4) dX7_priceOf_41 (by decide) ?_
      refine ev_iload_n dX7_priceOf_4 rfl rfl ?_
      refine ev_iconst (v := 4) dX7_priceOf_5 (by decide) ?_
      refine ev_icmp_ge (tgt := 44) dX7_priceOf_6 (by decide) (fun c => absurd c (by decide)) (fun _ => ?_)
      refine ev_aload_n dX7_priceOf_9 rfl rfl ?_
      refine ev_getR (b := 70) dX7_priceOf_10 fl_X7_22 (ly_k hI.ly 65 rfl) (ly_r hI.ly 33 rfl) ?_
      refine ev_iconst (v := 4) dX7_priceOf_13 (by decide) ?_
      refine ev_iload_n dX7_priceOf_14 rfl rfl ?_
      refine ev_imul (v := nI (4 * p)) dX7_priceOf_15 (pk_mul 4 p) ?_
      refine ev_iload_n dX7_priceOf_16 rfl rfl ?_
      refine ev_iadd (v := nI (4 * p + 3)) dX7_priceOf_17 (nI_add (4 * p) 3) ?_
      refine ev_iald (v := A 70 (4 * p + 3)) dX7_priceOf_18 (ly_k hI.ly 70 rfl) (am_ixn (by omega) (by decide)) (hI.rd 70 (4 * p + 3) rfl) ?_
      refine ev_aload_n dX7_priceOf_19 rfl rfl ?_
      refine ev_getR (b := 70) dX7_priceOf_20 fl_X7_22 (ly_k hI.ly 65 rfl) (ly_r hI.ly 33 rfl) ?_
      refine ev_iconst (v := 4) dX7_priceOf_23 (by decide) ?_
      refine ev_iload_n dX7_priceOf_24 rfl rfl ?_
      refine ev_imul (v := nI (4 * p)) dX7_priceOf_25 (pk_mul 4 p) ?_
      refine ev_iload_n dX7_priceOf_26 rfl rfl ?_
      refine ev_iadd (v := nI (4 * p + 2)) dX7_priceOf_27 (nI_add (4 * p) 2) ?_
      refine ev_iald (v := A 70 (4 * p + 2)) dX7_priceOf_28 (ly_k hI.ly 70 rfl) (am_ixn (by omega) (by decide)) (hI.rd 70 (4 * p + 2) rfl) ?_
      refine ev_icmp_le (tgt := 36) dX7_priceOf_29 (by decide) (fun c13 => ?_) (fun c13 => ?_)
      · skip
        refine ev_iload_n dX7_priceOf_36 rfl rfl ?_
        refine ev_istore_n (lv' := [(0, .ref 65), (1, .int (nI p)), (2, .int 2), (3, .int 3)]) dX7_priceOf_37 rfl (by decide) rfl ?_
        refine ev_iinc (lv' := [(0, .ref 65), (1, .int (nI p)), (2, .int 2), (3, .int 4)]) (v := 4) dX7_priceOf_38 rfl (by decide) (by decide) rfl ?_
        refine ev_goto (tgt := 4) dX7_priceOf_41 (by decide) ?_
        refine ev_iload_n dX7_priceOf_4 rfl rfl ?_
        refine ev_iconst (v := 4) dX7_priceOf_5 (by decide) ?_
        refine ev_icmp_ge (tgt := 44) dX7_priceOf_6 (by decide) (fun _ => ?_) (fun c => absurd (by decide) c)
        refine ev_aload_n dX7_priceOf_44 rfl rfl ?_
        refine ev_iconst (v := 2) dX7_priceOf_45 (by decide) ?_
        refine ev_aload_n dX7_priceOf_46 rfl rfl ?_
        refine ev_getR (b := 70) dX7_priceOf_47 fl_X7_22 (ly_k hI.ly 65 rfl) (ly_r hI.ly 33 rfl) ?_
        refine ev_iconst (v := 4) dX7_priceOf_50 (by decide) ?_
        refine ev_iload_n dX7_priceOf_51 rfl rfl ?_
        refine ev_imul (v := nI (4 * p)) dX7_priceOf_52 (pk_mul 4 p) ?_
        refine ev_iload_n dX7_priceOf_53 rfl rfl ?_
        refine ev_iadd (v := nI (4 * p + 2)) dX7_priceOf_54 (nI_add (4 * p) 2) ?_
        refine ev_iald (v := A 70 (4 * p + 2)) dX7_priceOf_55 (ly_k hI.ly 70 rfl) (am_ixn (by omega) (by decide)) (hI.rd 70 (4 * p + 2) rfl) ?_
        refine ev_iconst (v := 0) dX7_priceOf_56 (by decide) ?_
        refine ev_aload_n dX7_priceOf_57 rfl rfl ?_
        refine ev_getR (b := 67) dX7_priceOf_58 fl_X7_13 (ly_k hI.ly 65 rfl) (ly_r hI.ly 30 rfl) ?_
        refine ev_iload_n dX7_priceOf_61 rfl rfl ?_
        refine ev_iald (v := A 67 p) dX7_priceOf_62 (ly_k hI.ly 67 rfl) (am_ixn (by omega) (by decide)) (hI.rd 67 p rfl) ?_
        refine ev_iload_n dX7_priceOf_63 rfl rfl ?_
        refine ev_iconst (v := 0) dX7_priceOf_64 (by decide) ?_
        refine ev_iload_n dX7_priceOf_65 rfl rfl ?_
        refine ev_callV (as := [.int 2, .int (A 70 (4 * p + 2)), .int 0, .int (A 67 p), .int 2, .int 0, .int (nI p)]) (st := []) dX7_priceOf_66 mfX7_asksOf lk_X7_173 (ly_k hI.ly 65 rfl) (by decide) rfl (c_X7_asksOf G D A σ hA hI 2 (by omega) (A 70 (4 * p + 2)) 0 (A 67 p) 2 0 (nI p)) rfl rfl (Nat.le_of_ble_eq_true rfl) (am_hR (by omega) (by decide)) ⟨Nat.le_refl _, Nat.le_refl _⟩ ?_
        rintro _ σ14 ⟨rfl, hI14, hF14⟩
        refine ev_reti dX7_priceOf_69 rfl (Nat.zero_le _) (Nat.zero_le _) ?_
        have e1 : s_d1 A p = 1 := by unfold s_d1; exact if_pos (Int32.not_le.mp c1)
        have e2 : s_d2 A p = 2 := by unfold s_d2; rw [e1]; exact if_pos (Int32.not_le.mp c9)
        have e3 : s_dt A p = 2 := by unfold s_dt; rw [e2]; exact if_neg (Int32.not_lt.mpr c13)
        exact ⟨by unfold s_pr; rw [e3]; rfl, hI14, (fr_M.tr fr_M.rf hF14)⟩
      · skip
        refine ev_iload_n dX7_priceOf_32 rfl rfl ?_
        refine ev_goto (tgt := 37) dX7_priceOf_33 (by decide) ?_
        refine ev_istore_n (lv' := [(0, .ref 65), (1, .int (nI p)), (2, .int 3), (3, .int 3)]) dX7_priceOf_37 rfl (by decide) rfl ?_
        refine ev_iinc (lv' := [(0, .ref 65), (1, .int (nI p)), (2, .int 3), (3, .int 4)]) (v := 4) dX7_priceOf_38 rfl (by decide) (by decide) rfl ?_
        refine ev_goto (tgt := 4) dX7_priceOf_41 (by decide) ?_
        refine ev_iload_n dX7_priceOf_4 rfl rfl ?_
        refine ev_iconst (v := 4) dX7_priceOf_5 (by decide) ?_
        refine ev_icmp_ge (tgt := 44) dX7_priceOf_6 (by decide) (fun _ => ?_) (fun c => absurd (by decide) c)
        refine ev_aload_n dX7_priceOf_44 rfl rfl ?_
        refine ev_iconst (v := 2) dX7_priceOf_45 (by decide) ?_
        refine ev_aload_n dX7_priceOf_46 rfl rfl ?_
        refine ev_getR (b := 70) dX7_priceOf_47 fl_X7_22 (ly_k hI.ly 65 rfl) (ly_r hI.ly 33 rfl) ?_
        refine ev_iconst (v := 4) dX7_priceOf_50 (by decide) ?_
        refine ev_iload_n dX7_priceOf_51 rfl rfl ?_
        refine ev_imul (v := nI (4 * p)) dX7_priceOf_52 (pk_mul 4 p) ?_
        refine ev_iload_n dX7_priceOf_53 rfl rfl ?_
        refine ev_iadd (v := nI (4 * p + 3)) dX7_priceOf_54 (nI_add (4 * p) 3) ?_
        refine ev_iald (v := A 70 (4 * p + 3)) dX7_priceOf_55 (ly_k hI.ly 70 rfl) (am_ixn (by omega) (by decide)) (hI.rd 70 (4 * p + 3) rfl) ?_
        refine ev_iconst (v := 0) dX7_priceOf_56 (by decide) ?_
        refine ev_aload_n dX7_priceOf_57 rfl rfl ?_
        refine ev_getR (b := 67) dX7_priceOf_58 fl_X7_13 (ly_k hI.ly 65 rfl) (ly_r hI.ly 30 rfl) ?_
        refine ev_iload_n dX7_priceOf_61 rfl rfl ?_
        refine ev_iald (v := A 67 p) dX7_priceOf_62 (ly_k hI.ly 67 rfl) (am_ixn (by omega) (by decide)) (hI.rd 67 p rfl) ?_
        refine ev_iload_n dX7_priceOf_63 rfl rfl ?_
        refine ev_iconst (v := 0) dX7_priceOf_64 (by decide) ?_
        refine ev_iload_n dX7_priceOf_65 rfl rfl ?_
        refine ev_callV (as := [.int 2, .int (A 70 (4 * p + 3)), .int 0, .int (A 67 p), .int 3, .int 0, .int (nI p)]) (st := []) dX7_priceOf_66 mfX7_asksOf lk_X7_173 (ly_k hI.ly 65 rfl) (by decide) rfl (c_X7_asksOf G D A σ hA hI 2 (by omega) (A 70 (4 * p + 3)) 0 (A 67 p) 3 0 (nI p)) rfl rfl (Nat.le_of_ble_eq_true rfl) (am_hR (by omega) (by decide)) ⟨Nat.le_refl _, Nat.le_refl _⟩ ?_
        rintro _ σ15 ⟨rfl, hI15, hF15⟩
        refine ev_reti dX7_priceOf_69 rfl (Nat.zero_le _) (Nat.zero_le _) ?_
        have e1 : s_d1 A p = 1 := by unfold s_d1; exact if_pos (Int32.not_le.mp c1)
        have e2 : s_d2 A p = 2 := by unfold s_d2; rw [e1]; exact if_pos (Int32.not_le.mp c9)
        have e3 : s_dt A p = 3 := by unfold s_dt; rw [e2]; exact if_pos (Int32.not_le.mp c13)
        exact ⟨by unfold s_pr; rw [e3]; rfl, hI15, (fr_M.tr fr_M.rf hF15)⟩

set_option maxHeartbeats 400000 in
set_option maxRecDepth 100000 in
theorem c_X7_price (G : am_G) (D : Nat) (A : am_S) (σ : am_M) (hA : wf_A A) (hI : iv_M A σ) (p : Int32) : am_Mt G (D + 4) mX7_price [.ref 65, .int p] σ 0 0 (am_qM A (.int (sp_price A p)) σ) := by
  have b7 := wf_np7 hA
  have b8 := wf_nq8 hA
  have b6 := wf_nt6 hA
  have b61 := wf_nt1 hA
  have b160 := wf_tp160 hA
  have brl := wf_rlt hA
  refine am_of moX7_price (Nat.le_of_ble_eq_true rfl) ?_
  show am_Ev G mX7_price (am_R (D + 4) 0 0) 0 0 (am_qM A (.int (sp_price A p)) σ) 0 [(0, .ref 65), (1, .int p)] [] σ 0 0
  refine ev_aload_n dX7_price_0 rfl rfl ?_
  refine ev_iload_n dX7_price_1 rfl rfl ?_
  refine ev_callV (as := [.int p]) (st := []) dX7_price_2 mfX7_isOne lk_X7_177 (ly_k hI.ly 65 rfl) (by decide) rfl (c_X7_isOne G (D + 2) A σ hA hI p) rfl rfl (Nat.le_of_ble_eq_true rfl) (am_hR (by omega) (by decide)) ⟨Nat.le_refl _, Nat.le_refl _⟩ ?_
  rintro _ _ (⟨⟨j1, h1, rfl⟩, rfl, rfl⟩ | ⟨h1, rfl, rfl⟩)
  · skip
    refine ev_if_eq (tgt := 16) dX7_price_5 (by decide) (fun c => absurd c (by decide)) (fun _ => ?_)
    refine ev_aload_n dX7_price_8 rfl rfl ?_
    refine ev_iload_n dX7_price_9 rfl rfl ?_
    refine ev_callV (as := [.int (nI j1)]) (st := []) dX7_price_10 mfX7_priceOf lk_X7_241 (ly_k hI.ly 65 rfl) (by decide) rfl (c_X7_priceOf G D A σ hA hI j1 (by omega)) rfl rfl (Nat.le_of_ble_eq_true rfl) (am_hR (by omega) (by decide)) ⟨Nat.le_refl _, Nat.le_refl _⟩ ?_
    rintro _ σ2 ⟨rfl, hI2, hF2⟩
    refine ev_goto (tgt := 18) dX7_price_13 (by decide) ?_
    refine ev_reti dX7_price_18 rfl (Nat.zero_le _) (Nat.zero_le _) ?_
    refine ⟨?_, hI2, (fr_M.tr fr_M.rf hF2)⟩
    simp [sp_price, am_inN h1 (by omega), sN_n (show j1 < 2 ^ 31 by omega)]
  · skip
    refine ev_if_eq (tgt := 16) dX7_price_5 (by decide) (fun _ => ?_) (fun c => absurd (by decide) c)
    refine ev_bipush (v := (-5)) dX7_price_16 (by decide) ?_
    refine ev_reti dX7_price_18 rfl (Nat.zero_le _) (Nat.zero_le _) ?_
    refine ⟨?_, hI, fr_M.rf⟩
    simp [sp_price, am_inF (by omega) h1]

set_option maxHeartbeats 400000 in
set_option maxRecDepth 100000 in
theorem c_X7_hire (G : am_G) (D : Nat) (A : am_S) (σ : am_M) (hA : wf_A A) (hI : iv_M A σ) (t coin w : Int32) : am_Mt G (D + 10) mX7_hire [.ref 65, .int t, .int coin, .int w] σ 0 0 (am_qM A (.int (sp_hire A t coin w)) σ) := by
  have b7 := wf_np7 hA
  have b8 := wf_nq8 hA
  have b6 := wf_nt6 hA
  have b61 := wf_nt1 hA
  have b160 := wf_tp160 hA
  have brl := wf_rlt hA
  refine am_of moX7_hire (Nat.le_of_ble_eq_true rfl) ?_
  show am_Ev G mX7_hire (am_R (D + 10) 0 0) 0 0 (am_qM A (.int (sp_hire A t coin w)) σ) 0 [(0, .ref 65), (1, .int t), (2, .int coin), (3, .int w)] [] σ 0 0
  refine ev_iload_n dX7_hire_0 rfl rfl ?_
  refine ev_callS (as := [.int t]) (st := []) dX7_hire_1 mfX7_isTable lk_X7_183 (c_X7_isTable G (D + 8) σ t) rfl rfl (Nat.le_of_ble_eq_true rfl) (am_hR (by omega) (by decide)) ⟨Nat.le_refl _, Nat.le_refl _⟩ ?_
  rintro _ _ (⟨⟨j1, h1, rfl⟩, rfl, rfl⟩ | ⟨h1, rfl, rfl⟩)
  · skip
    refine ev_if_ne (tgt := 10) dX7_hire_4 (by decide) (fun _ => ?_) (fun c => absurd c (by decide))
    refine ev_iload_n dX7_hire_10 rfl rfl ?_
    refine ev_iconst (v := 0) dX7_hire_11 (by decide) ?_
    refine ev_sipush (v := 999) dX7_hire_12 (by decide) ?_
    refine ev_callS (as := [.int coin, .int 0, .int 999]) (st := []) dX7_hire_15 mfX7_in lk_X7_90 (c_X7_in G (D + 9) σ coin 0 999) rfl rfl (Nat.le_of_ble_eq_true rfl) (am_hR (by omega) (by decide)) ⟨Nat.le_refl _, Nat.le_refl _⟩ ?_
    rintro _ _ (⟨h2, rfl, rfl⟩ | ⟨h2, rfl, rfl⟩)
    · skip
      have hk := (am_inR (n := 1000) (by decide)).mpr ((am_rgl (n := 1000) (by decide)).mp h2)
      refine ev_if_eq (tgt := 30) dX7_hire_18 (by decide) (fun c => absurd c (by decide)) (fun _ => ?_)
      refine ev_iload_n dX7_hire_21 rfl rfl ?_
      refine ev_iconst (v := 0) dX7_hire_22 (by decide) ?_
      refine ev_iconst (v := 1) dX7_hire_23 (by decide) ?_
      refine ev_callS (as := [.int w, .int 0, .int 1]) (st := []) dX7_hire_24 mfX7_in lk_X7_90 (c_X7_in G (D + 9) σ w 0 1) rfl rfl (Nat.le_of_ble_eq_true rfl) (am_hR (by omega) (by decide)) ⟨Nat.le_refl _, Nat.le_refl _⟩ ?_
      rintro _ _ (⟨h3, rfl, rfl⟩ | ⟨h3, rfl, rfl⟩)
      · skip
        rcases am_v1 h3 with rfl | rfl
        · skip
          refine ev_if_ne (tgt := 33) dX7_hire_27 (by decide) (fun _ => ?_) (fun c => absurd c (by decide))
          refine ev_iconst (v := (-1)) dX7_hire_33 (by decide) ?_
          refine ev_istore (lv' := [(0, .ref 65), (1, .int (nI j1)), (2, .int coin), (3, .int 0), (4, .int (-1))]) dX7_hire_34 (by decide) rfl ?_
          refine ev_aload_n dX7_hire_36 rfl rfl ?_
          refine ev_iload_n dX7_hire_37 rfl rfl ?_
          refine ev_callV (as := [.int (nI j1)]) (st := []) dX7_hire_38 mfX7_scoreNow lk_X7_217 (ly_k hI.ly 65 rfl) (by decide) rfl (c_X7_scoreNow G (D + 1) A σ hA hI j1 (by omega)) rfl rfl (Nat.le_of_ble_eq_true rfl) (am_hR (by omega) (by decide)) ⟨Nat.le_refl _, Nat.le_refl _⟩ ?_
          rintro _ σ4 ⟨rfl, hI4, hF4⟩
          refine ev_istore (lv' := [(0, .ref 65), (1, .int (nI j1)), (2, .int coin), (3, .int 0), (4, .int (-1)), (5, .int (s_now A j1))]) dX7_hire_41 (by decide) rfl ?_
          refine ev_iconst (v := (-1)) dX7_hire_43 (by decide) ?_
          refine ev_istore (lv' := [(0, .ref 65), (1, .int (nI j1)), (2, .int coin), (3, .int 0), (4, .int (-1)), (5, .int (s_now A j1)), (6, .int (-1))]) dX7_hire_44 (by decide) rfl ?_
          refine ev_iconst (v := 0) dX7_hire_46 (by decide) ?_
          refine ev_istore (lv' := [(0, .ref 65), (1, .int (nI j1)), (2, .int coin), (3, .int 0), (4, .int (-1)), (5, .int (s_now A j1)), (6, .int (-1)), (7, .int 0)]) dX7_hire_47 (by decide) rfl ?_
          have lp : ∀ (f : Nat) (p : Nat) (best : Int32) (most : Int32) (cost : Int32) (σ1 : am_M), (p ≤ s_np A) → (best = s_bi (s_hi A j1 coin p).1) → (most = (s_hi A j1 coin p).2.1) → (cost = (s_hi A j1 coin p).2.2) → (iv_M A σ1) → (fr_M σ σ1) → s_np A - p < f → am_Ev G mX7_hire (am_R (D + 10) 0 0) 0 0 (am_qM A (.int (sp_hire A (nI j1) coin 0)) σ) 49 [(0, .ref 65), (1, .int (nI j1)), (2, .int coin), (3, .int 0), (4, .int best), (5, .int most), (6, .int cost), (7, .int (nI p))] [] σ1 0 0 := by
            intro f
            induction f with
            | zero => intro p best most cost σ1 hp hb hm hc hI hF hf; exact absurd hf (Nat.not_lt_zero _)
            | succ f ih =>
              intro p best most cost σ1 hp hb hm hc hI hF hf
              refine ev_iload dX7_hire_49 rfl ?_
              refine ev_aload_n dX7_hire_51 rfl rfl ?_
              refine ev_getI (v := nI (s_np A)) dX7_hire_52 fl_X7_87 (ly_k hI.ly 65 rfl) ((hI.rd 65 0 rfl).trans (wf_np hA)) ?_
              refine ev_icmp_ge (tgt := 175) dX7_hire_55 (by decide) (fun c5 => ?_) (fun c5 => ?_)
              · skip
                have c5n : (s_np A) ≤ p := (nI_leI (a := (s_np A)) (b := p) (by omega) (by omega)).mp c5
                refine ev_iload_n dX7_hire_175 rfl rfl ?_
                refine ev_if_ne (tgt := 184) dX7_hire_176 (by decide) (fun c => absurd (by decide) c) (fun _ => ?_)
                refine ev_iload dX7_hire_179 rfl ?_
                refine ev_goto (tgt := 186) dX7_hire_181 (by decide) ?_
                refine ev_reti dX7_hire_186 rfl (Nat.zero_le _) (Nat.zero_le _) ?_
                have e : p = s_np A := by omega
                subst e
                refine ⟨?_, hI, hF⟩
                rw [hb]
                simp [sp_hire, hk, am_inN h1 (by omega), sN_n (show j1 < 2 ^ 31 by omega)]
              · skip
                have c5n : ¬ (s_np A) ≤ p := fun zz => c5 ((nI_leI (a := (s_np A)) (b := p) (by omega) (by omega)).mpr zz)
                cases ho : (s_hi A j1 coin p).1 with
                | none =>
                  refine ev_aload_n dX7_hire_58 rfl rfl ?_
                  refine ev_iload dX7_hire_59 rfl ?_
                  refine ev_callV (as := [.int (nI p)]) (st := []) dX7_hire_61 mfX7_priceOf lk_X7_241 (ly_k hI.ly 65 rfl) (by decide) rfl (c_X7_priceOf G (D + 6) A σ1 hA hI p (by omega)) rfl rfl (Nat.le_of_ble_eq_true rfl) (am_hR (by omega) (by decide)) ⟨Nat.le_refl _, Nat.le_refl _⟩ ?_
                  rintro _ σ6 ⟨rfl, hI6, hF6⟩
                  refine ev_istore (lv' := [(0, .ref 65), (1, .int (nI j1)), (2, .int coin), (3, .int 0), (4, .int best), (5, .int most), (6, .int cost), (7, .int (nI p)), (8, .int (s_pr A p))]) dX7_hire_64 (by decide) rfl ?_
                  refine ev_aload_n dX7_hire_66 rfl rfl ?_
                  refine ev_getR (b := 69) dX7_hire_67 fl_X7_19 (ly_k hI6.ly 65 rfl) (ly_r hI6.ly 32 rfl) ?_
                  refine ev_iload dX7_hire_70 rfl ?_
                  refine ev_iald (v := A 69 p) dX7_hire_72 (ly_k hI6.ly 69 rfl) (am_ixn (by omega) (by decide)) (hI6.rd 69 p rfl) ?_
                  refine ev_iconst (v := (-1)) dX7_hire_73 (by decide) ?_
                  refine ev_icmp_ne (tgt := 169) dX7_hire_74 (by decide) (fun c7 => ?_) (fun c7 => ?_)
                  · skip
                    refine ev_iinc (lv' := [(0, .ref 65), (1, .int (nI j1)), (2, .int coin), (3, .int 0), (4, .int best), (5, .int most), (6, .int cost), (7, .int (nI (p + 1))), (8, .int (s_pr A p))]) (v := nI (p + 1)) dX7_hire_169 rfl (nI_1 _) (by decide) rfl ?_
                    refine ev_goto (tgt := 49) dX7_hire_172 (by decide) ?_
                    refine ev_keep (lv' := [(0, .ref 65), (1, .int (nI j1)), (2, .int coin), (3, .int 0), (4, .int best), (5, .int most), (6, .int cost), (7, .int (nI (p + 1)))]) [0, 1, 2, 3, 4, 5, 6, 7] rfl ?_
                    exact ih (p + 1) best most cost σ6 (by omega) (by rw [s_hiF (fun z => c7 z.1)]; exact hb) (by rw [s_hiF (fun z => c7 z.1)]; exact hm) (by rw [s_hiF (fun z => c7 z.1)]; exact hc) hI6 (fr_M.tr hF hF6) (by omega)
                  · skip
                    refine ev_iload dX7_hire_77 rfl ?_
                    refine ev_iload_n dX7_hire_79 rfl rfl ?_
                    refine ev_icmp_gt (tgt := 169) dX7_hire_80 (by decide) (fun c8 => ?_) (fun c8 => ?_)
                    · skip
                      refine ev_iinc (lv' := [(0, .ref 65), (1, .int (nI j1)), (2, .int coin), (3, .int 0), (4, .int best), (5, .int most), (6, .int cost), (7, .int (nI (p + 1))), (8, .int (s_pr A p))]) (v := nI (p + 1)) dX7_hire_169 rfl (nI_1 _) (by decide) rfl ?_
                      refine ev_goto (tgt := 49) dX7_hire_172 (by decide) ?_
                      refine ev_keep (lv' := [(0, .ref 65), (1, .int (nI j1)), (2, .int coin), (3, .int 0), (4, .int best), (5, .int most), (6, .int cost), (7, .int (nI (p + 1)))]) [0, 1, 2, 3, 4, 5, 6, 7] rfl ?_
                      exact ih (p + 1) best most cost σ6 (by omega) (by rw [s_hiF (fun z => absurd z.2 (Int32.not_le.mpr c8))]; exact hb) (by rw [s_hiF (fun z => absurd z.2 (Int32.not_le.mpr c8))]; exact hm) (by rw [s_hiF (fun z => absurd z.2 (Int32.not_le.mpr c8))]; exact hc) hI6 (fr_M.tr hF hF6) (by omega)
                    · skip
                      refine ev_aload_n dX7_hire_83 rfl rfl ?_
                      refine ev_iload_n dX7_hire_84 rfl rfl ?_
                      refine ev_iload dX7_hire_85 rfl ?_
                      refine ev_iload_n dX7_hire_87 rfl rfl ?_
                      refine ev_callV (as := [.int (nI j1), .int (nI p), .int (nI j1)]) (st := []) dX7_hire_88 mfX7_scoreWith lk_X7_232 (ly_k hI6.ly 65 rfl) (by decide) rfl (c_X7_scoreWith G D A σ6 hA hI6 j1 p (nI j1) (by omega) (by omega) (Or.inr ⟨_, by omega, rfl⟩)) rfl rfl (Nat.le_of_ble_eq_true rfl) (am_hR (by omega) (by decide)) ⟨Nat.le_refl _, Nat.le_refl _⟩ ?_
                      rintro _ σ9 ⟨rfl, hI9, hF9⟩
                      refine ev_istore (lv' := [(0, .ref 65), (1, .int (nI j1)), (2, .int coin), (3, .int 0), (4, .int best), (5, .int most), (6, .int cost), (7, .int (nI p)), (8, .int (s_pr A p)), (9, .int (s_wi A j1 p (nI j1)))]) dX7_hire_91 (by decide) rfl ?_
                      refine ev_iload dX7_hire_93 rfl ?_
                      refine ev_iload dX7_hire_95 rfl ?_
                      refine ev_icmp_gt (tgt := 120) dX7_hire_97 (by decide) (fun c10 => ?_) (fun c10 => ?_)
                      · skip
                        refine ev_iconst (v := 1) dX7_hire_120 (by decide) ?_
                        refine ev_goto (tgt := 125) dX7_hire_121 (by decide) ?_
                        refine ev_istore (lv' := [(0, .ref 65), (1, .int (nI j1)), (2, .int coin), (3, .int 0), (4, .int best), (5, .int most), (6, .int cost), (7, .int (nI p)), (8, .int (s_pr A p)), (9, .int (s_wi A j1 p (nI j1))), (10, .int 1)]) dX7_hire_125 (by decide) rfl ?_
                        refine ev_iload dX7_hire_127 rfl ?_
                        refine ev_if_eq (tgt := 137) dX7_hire_129 (by decide) (fun c => absurd c (by decide)) (fun _ => ?_)
                        refine ev_iload dX7_hire_132 rfl ?_
                        refine ev_goto (tgt := 139) dX7_hire_134 (by decide) ?_
                        refine ev_istore (lv' := [(0, .ref 65), (1, .int (nI j1)), (2, .int coin), (3, .int 0), (4, .int (nI p)), (5, .int most), (6, .int cost), (7, .int (nI p)), (8, .int (s_pr A p)), (9, .int (s_wi A j1 p (nI j1))), (10, .int 1)]) dX7_hire_139 (by decide) rfl ?_
                        refine ev_iload dX7_hire_141 rfl ?_
                        refine ev_if_eq (tgt := 151) dX7_hire_143 (by decide) (fun c => absurd c (by decide)) (fun _ => ?_)
                        refine ev_iload dX7_hire_146 rfl ?_
                        refine ev_goto (tgt := 153) dX7_hire_148 (by decide) ?_
                        refine ev_istore (lv' := [(0, .ref 65), (1, .int (nI j1)), (2, .int coin), (3, .int 0), (4, .int (nI p)), (5, .int (s_wi A j1 p (nI j1))), (6, .int cost), (7, .int (nI p)), (8, .int (s_pr A p)), (9, .int (s_wi A j1 p (nI j1))), (10, .int 1)]) dX7_hire_153 (by decide) rfl ?_
                        refine ev_iload dX7_hire_155 rfl ?_
                        refine ev_if_eq (tgt := 165) dX7_hire_157 (by decide) (fun c => absurd c (by decide)) (fun _ => ?_)
                        refine ev_iload dX7_hire_160 rfl ?_
                        refine ev_goto (tgt := 167) dX7_hire_162 (by decide) ?_
                        refine ev_istore (lv' := [(0, .ref 65), (1, .int (nI j1)), (2, .int coin), (3, .int 0), (4, .int (nI p)), (5, .int (s_wi A j1 p (nI j1))), (6, .int (s_pr A p)), (7, .int (nI p)), (8, .int (s_pr A p)), (9, .int (s_wi A j1 p (nI j1))), (10, .int 1)]) dX7_hire_167 (by decide) rfl ?_
                        refine ev_iinc (lv' := [(0, .ref 65), (1, .int (nI j1)), (2, .int coin), (3, .int 0), (4, .int (nI p)), (5, .int (s_wi A j1 p (nI j1))), (6, .int (s_pr A p)), (7, .int (nI (p + 1))), (8, .int (s_pr A p)), (9, .int (s_wi A j1 p (nI j1))), (10, .int 1)]) (v := nI (p + 1)) dX7_hire_169 rfl (nI_1 _) (by decide) rfl ?_
                        refine ev_goto (tgt := 49) dX7_hire_172 (by decide) ?_
                        refine ev_keep (lv' := [(0, .ref 65), (1, .int (nI j1)), (2, .int coin), (3, .int 0), (4, .int (nI p)), (5, .int (s_wi A j1 p (nI j1))), (6, .int (s_pr A p)), (7, .int (nI (p + 1)))]) [0, 1, 2, 3, 4, 5, 6, 7] rfl ?_
                        exact ih (p + 1) (nI p) (s_wi A j1 p (nI j1)) (s_pr A p) σ9 (by omega) (by rw [s_hiY ⟨c7, Int32.not_lt.mp c8⟩ (Or.inl (by rw [← hm]; exact c10))]; rfl) (by rw [s_hiY ⟨c7, Int32.not_lt.mp c8⟩ (Or.inl (by rw [← hm]; exact c10))]) (by rw [s_hiY ⟨c7, Int32.not_lt.mp c8⟩ (Or.inl (by rw [← hm]; exact c10))]) hI9 (fr_M.tr (fr_M.tr hF hF6) hF9) (by omega)
                      · skip
                        refine ev_iload dX7_hire_100 rfl ?_
                        refine ev_iconst (v := (-1)) dX7_hire_102 (by decide) ?_
                        refine ev_icmp_eq (tgt := 124) dX7_hire_103 (by decide) (fun _ => ?_) (fun c => absurd ((by rw [hb, ho]; rfl)) c)
                        refine ev_iconst (v := 0) dX7_hire_124 (by decide) ?_
                        refine ev_istore (lv' := [(0, .ref 65), (1, .int (nI j1)), (2, .int coin), (3, .int 0), (4, .int best), (5, .int most), (6, .int cost), (7, .int (nI p)), (8, .int (s_pr A p)), (9, .int (s_wi A j1 p (nI j1))), (10, .int 0)]) dX7_hire_125 (by decide) rfl ?_
                        refine ev_iload dX7_hire_127 rfl ?_
                        refine ev_if_eq (tgt := 137) dX7_hire_129 (by decide) (fun _ => ?_) (fun c => absurd (by decide) c)
                        refine ev_iload dX7_hire_137 rfl ?_
                        refine ev_istore (lv' := [(0, .ref 65), (1, .int (nI j1)), (2, .int coin), (3, .int 0), (4, .int best), (5, .int most), (6, .int cost), (7, .int (nI p)), (8, .int (s_pr A p)), (9, .int (s_wi A j1 p (nI j1))), (10, .int 0)]) dX7_hire_139 (by decide) rfl ?_
                        refine ev_iload dX7_hire_141 rfl ?_
                        refine ev_if_eq (tgt := 151) dX7_hire_143 (by decide) (fun _ => ?_) (fun c => absurd (by decide) c)
                        refine ev_iload dX7_hire_151 rfl ?_
                        refine ev_istore (lv' := [(0, .ref 65), (1, .int (nI j1)), (2, .int coin), (3, .int 0), (4, .int best), (5, .int most), (6, .int cost), (7, .int (nI p)), (8, .int (s_pr A p)), (9, .int (s_wi A j1 p (nI j1))), (10, .int 0)]) dX7_hire_153 (by decide) rfl ?_
                        refine ev_iload dX7_hire_155 rfl ?_
                        refine ev_if_eq (tgt := 165) dX7_hire_157 (by decide) (fun _ => ?_) (fun c => absurd (by decide) c)
                        refine ev_iload dX7_hire_165 rfl ?_
                        refine ev_istore (lv' := [(0, .ref 65), (1, .int (nI j1)), (2, .int coin), (3, .int 0), (4, .int best), (5, .int most), (6, .int cost), (7, .int (nI p)), (8, .int (s_pr A p)), (9, .int (s_wi A j1 p (nI j1))), (10, .int 0)]) dX7_hire_167 (by decide) rfl ?_
                        refine ev_iinc (lv' := [(0, .ref 65), (1, .int (nI j1)), (2, .int coin), (3, .int 0), (4, .int best), (5, .int most), (6, .int cost), (7, .int (nI (p + 1))), (8, .int (s_pr A p)), (9, .int (s_wi A j1 p (nI j1))), (10, .int 0)]) (v := nI (p + 1)) dX7_hire_169 rfl (nI_1 _) (by decide) rfl ?_
                        refine ev_goto (tgt := 49) dX7_hire_172 (by decide) ?_
                        refine ev_keep (lv' := [(0, .ref 65), (1, .int (nI j1)), (2, .int coin), (3, .int 0), (4, .int best), (5, .int most), (6, .int cost), (7, .int (nI (p + 1)))]) [0, 1, 2, 3, 4, 5, 6, 7] rfl ?_
                        exact ih (p + 1) best most cost σ9 (by omega) (by rw [s_hiN (fun z => z.elim (fun y => absurd y (by rw [← hm]; exact c10)) (fun y => y.1 ho))]; exact hb) (by rw [s_hiN (fun z => z.elim (fun y => absurd y (by rw [← hm]; exact c10)) (fun y => y.1 ho))]; exact hm) (by rw [s_hiN (fun z => z.elim (fun y => absurd y (by rw [← hm]; exact c10)) (fun y => y.1 ho))]; exact hc) hI9 (fr_M.tr (fr_M.tr hF hF6) hF9) (by omega)
                | some b =>
                  have hbl := s_hilt ho
                  refine ev_aload_n dX7_hire_58 rfl rfl ?_
                  refine ev_iload dX7_hire_59 rfl ?_
                  refine ev_callV (as := [.int (nI p)]) (st := []) dX7_hire_61 mfX7_priceOf lk_X7_241 (ly_k hI.ly 65 rfl) (by decide) rfl (c_X7_priceOf G (D + 6) A σ1 hA hI p (by omega)) rfl rfl (Nat.le_of_ble_eq_true rfl) (am_hR (by omega) (by decide)) ⟨Nat.le_refl _, Nat.le_refl _⟩ ?_
                  rintro _ σ11 ⟨rfl, hI11, hF11⟩
                  refine ev_istore (lv' := [(0, .ref 65), (1, .int (nI j1)), (2, .int coin), (3, .int 0), (4, .int best), (5, .int most), (6, .int cost), (7, .int (nI p)), (8, .int (s_pr A p))]) dX7_hire_64 (by decide) rfl ?_
                  refine ev_aload_n dX7_hire_66 rfl rfl ?_
                  refine ev_getR (b := 69) dX7_hire_67 fl_X7_19 (ly_k hI11.ly 65 rfl) (ly_r hI11.ly 32 rfl) ?_
                  refine ev_iload dX7_hire_70 rfl ?_
                  refine ev_iald (v := A 69 p) dX7_hire_72 (ly_k hI11.ly 69 rfl) (am_ixn (by omega) (by decide)) (hI11.rd 69 p rfl) ?_
                  refine ev_iconst (v := (-1)) dX7_hire_73 (by decide) ?_
                  refine ev_icmp_ne (tgt := 169) dX7_hire_74 (by decide) (fun c12 => ?_) (fun c12 => ?_)
                  · skip
                    refine ev_iinc (lv' := [(0, .ref 65), (1, .int (nI j1)), (2, .int coin), (3, .int 0), (4, .int best), (5, .int most), (6, .int cost), (7, .int (nI (p + 1))), (8, .int (s_pr A p))]) (v := nI (p + 1)) dX7_hire_169 rfl (nI_1 _) (by decide) rfl ?_
                    refine ev_goto (tgt := 49) dX7_hire_172 (by decide) ?_
                    refine ev_keep (lv' := [(0, .ref 65), (1, .int (nI j1)), (2, .int coin), (3, .int 0), (4, .int best), (5, .int most), (6, .int cost), (7, .int (nI (p + 1)))]) [0, 1, 2, 3, 4, 5, 6, 7] rfl ?_
                    exact ih (p + 1) best most cost σ11 (by omega) (by rw [s_hiF (fun z => c12 z.1)]; exact hb) (by rw [s_hiF (fun z => c12 z.1)]; exact hm) (by rw [s_hiF (fun z => c12 z.1)]; exact hc) hI11 (fr_M.tr hF hF11) (by omega)
                  · skip
                    refine ev_iload dX7_hire_77 rfl ?_
                    refine ev_iload_n dX7_hire_79 rfl rfl ?_
                    refine ev_icmp_gt (tgt := 169) dX7_hire_80 (by decide) (fun c13 => ?_) (fun c13 => ?_)
                    · skip
                      refine ev_iinc (lv' := [(0, .ref 65), (1, .int (nI j1)), (2, .int coin), (3, .int 0), (4, .int best), (5, .int most), (6, .int cost), (7, .int (nI (p + 1))), (8, .int (s_pr A p))]) (v := nI (p + 1)) dX7_hire_169 rfl (nI_1 _) (by decide) rfl ?_
                      refine ev_goto (tgt := 49) dX7_hire_172 (by decide) ?_
                      refine ev_keep (lv' := [(0, .ref 65), (1, .int (nI j1)), (2, .int coin), (3, .int 0), (4, .int best), (5, .int most), (6, .int cost), (7, .int (nI (p + 1)))]) [0, 1, 2, 3, 4, 5, 6, 7] rfl ?_
                      exact ih (p + 1) best most cost σ11 (by omega) (by rw [s_hiF (fun z => absurd z.2 (Int32.not_le.mpr c13))]; exact hb) (by rw [s_hiF (fun z => absurd z.2 (Int32.not_le.mpr c13))]; exact hm) (by rw [s_hiF (fun z => absurd z.2 (Int32.not_le.mpr c13))]; exact hc) hI11 (fr_M.tr hF hF11) (by omega)
                    · skip
                      refine ev_aload_n dX7_hire_83 rfl rfl ?_
                      refine ev_iload_n dX7_hire_84 rfl rfl ?_
                      refine ev_iload dX7_hire_85 rfl ?_
                      refine ev_iload_n dX7_hire_87 rfl rfl ?_
                      refine ev_callV (as := [.int (nI j1), .int (nI p), .int (nI j1)]) (st := []) dX7_hire_88 mfX7_scoreWith lk_X7_232 (ly_k hI11.ly 65 rfl) (by decide) rfl (c_X7_scoreWith G D A σ11 hA hI11 j1 p (nI j1) (by omega) (by omega) (Or.inr ⟨_, by omega, rfl⟩)) rfl rfl (Nat.le_of_ble_eq_true rfl) (am_hR (by omega) (by decide)) ⟨Nat.le_refl _, Nat.le_refl _⟩ ?_
                      rintro _ σ14 ⟨rfl, hI14, hF14⟩
                      refine ev_istore (lv' := [(0, .ref 65), (1, .int (nI j1)), (2, .int coin), (3, .int 0), (4, .int best), (5, .int most), (6, .int cost), (7, .int (nI p)), (8, .int (s_pr A p)), (9, .int (s_wi A j1 p (nI j1)))]) dX7_hire_91 (by decide) rfl ?_
                      refine ev_iload dX7_hire_93 rfl ?_
                      refine ev_iload dX7_hire_95 rfl ?_
                      refine ev_icmp_gt (tgt := 120) dX7_hire_97 (by decide) (fun c15 => ?_) (fun c15 => ?_)
                      · skip
                        refine ev_iconst (v := 1) dX7_hire_120 (by decide) ?_
                        refine ev_goto (tgt := 125) dX7_hire_121 (by decide) ?_
                        refine ev_istore (lv' := [(0, .ref 65), (1, .int (nI j1)), (2, .int coin), (3, .int 0), (4, .int best), (5, .int most), (6, .int cost), (7, .int (nI p)), (8, .int (s_pr A p)), (9, .int (s_wi A j1 p (nI j1))), (10, .int 1)]) dX7_hire_125 (by decide) rfl ?_
                        refine ev_iload dX7_hire_127 rfl ?_
                        refine ev_if_eq (tgt := 137) dX7_hire_129 (by decide) (fun c => absurd c (by decide)) (fun _ => ?_)
                        refine ev_iload dX7_hire_132 rfl ?_
                        refine ev_goto (tgt := 139) dX7_hire_134 (by decide) ?_
                        refine ev_istore (lv' := [(0, .ref 65), (1, .int (nI j1)), (2, .int coin), (3, .int 0), (4, .int (nI p)), (5, .int most), (6, .int cost), (7, .int (nI p)), (8, .int (s_pr A p)), (9, .int (s_wi A j1 p (nI j1))), (10, .int 1)]) dX7_hire_139 (by decide) rfl ?_
                        refine ev_iload dX7_hire_141 rfl ?_
                        refine ev_if_eq (tgt := 151) dX7_hire_143 (by decide) (fun c => absurd c (by decide)) (fun _ => ?_)
                        refine ev_iload dX7_hire_146 rfl ?_
                        refine ev_goto (tgt := 153) dX7_hire_148 (by decide) ?_
                        refine ev_istore (lv' := [(0, .ref 65), (1, .int (nI j1)), (2, .int coin), (3, .int 0), (4, .int (nI p)), (5, .int (s_wi A j1 p (nI j1))), (6, .int cost), (7, .int (nI p)), (8, .int (s_pr A p)), (9, .int (s_wi A j1 p (nI j1))), (10, .int 1)]) dX7_hire_153 (by decide) rfl ?_
                        refine ev_iload dX7_hire_155 rfl ?_
                        refine ev_if_eq (tgt := 165) dX7_hire_157 (by decide) (fun c => absurd c (by decide)) (fun _ => ?_)
                        refine ev_iload dX7_hire_160 rfl ?_
                        refine ev_goto (tgt := 167) dX7_hire_162 (by decide) ?_
                        refine ev_istore (lv' := [(0, .ref 65), (1, .int (nI j1)), (2, .int coin), (3, .int 0), (4, .int (nI p)), (5, .int (s_wi A j1 p (nI j1))), (6, .int (s_pr A p)), (7, .int (nI p)), (8, .int (s_pr A p)), (9, .int (s_wi A j1 p (nI j1))), (10, .int 1)]) dX7_hire_167 (by decide) rfl ?_
                        refine ev_iinc (lv' := [(0, .ref 65), (1, .int (nI j1)), (2, .int coin), (3, .int 0), (4, .int (nI p)), (5, .int (s_wi A j1 p (nI j1))), (6, .int (s_pr A p)), (7, .int (nI (p + 1))), (8, .int (s_pr A p)), (9, .int (s_wi A j1 p (nI j1))), (10, .int 1)]) (v := nI (p + 1)) dX7_hire_169 rfl (nI_1 _) (by decide) rfl ?_
                        refine ev_goto (tgt := 49) dX7_hire_172 (by decide) ?_
                        refine ev_keep (lv' := [(0, .ref 65), (1, .int (nI j1)), (2, .int coin), (3, .int 0), (4, .int (nI p)), (5, .int (s_wi A j1 p (nI j1))), (6, .int (s_pr A p)), (7, .int (nI (p + 1)))]) [0, 1, 2, 3, 4, 5, 6, 7] rfl ?_
                        exact ih (p + 1) (nI p) (s_wi A j1 p (nI j1)) (s_pr A p) σ14 (by omega) (by rw [s_hiY ⟨c12, Int32.not_lt.mp c13⟩ (Or.inl (by rw [← hm]; exact c15))]; rfl) (by rw [s_hiY ⟨c12, Int32.not_lt.mp c13⟩ (Or.inl (by rw [← hm]; exact c15))]) (by rw [s_hiY ⟨c12, Int32.not_lt.mp c13⟩ (Or.inl (by rw [← hm]; exact c15))]) hI14 (fr_M.tr (fr_M.tr hF hF11) hF14) (by omega)
                      · skip
                        refine ev_iload dX7_hire_100 rfl ?_
                        refine ev_iconst (v := (-1)) dX7_hire_102 (by decide) ?_
                        refine ev_icmp_eq (tgt := 124) dX7_hire_103 (by decide) (fun c => absurd c ((by rw [hb, ho]; exact s_bi_n (by omega)))) (fun _ => ?_)
                        refine ev_iload dX7_hire_106 rfl ?_
                        refine ev_iload dX7_hire_108 rfl ?_
                        refine ev_icmp_ne (tgt := 124) dX7_hire_110 (by decide) (fun c16 => ?_) (fun c16 => ?_)
                        · skip
                          refine ev_iconst (v := 0) dX7_hire_124 (by decide) ?_
                          refine ev_istore (lv' := [(0, .ref 65), (1, .int (nI j1)), (2, .int coin), (3, .int 0), (4, .int best), (5, .int most), (6, .int cost), (7, .int (nI p)), (8, .int (s_pr A p)), (9, .int (s_wi A j1 p (nI j1))), (10, .int 0)]) dX7_hire_125 (by decide) rfl ?_
                          refine ev_iload dX7_hire_127 rfl ?_
                          refine ev_if_eq (tgt := 137) dX7_hire_129 (by decide) (fun _ => ?_) (fun c => absurd (by decide) c)
                          refine ev_iload dX7_hire_137 rfl ?_
                          refine ev_istore (lv' := [(0, .ref 65), (1, .int (nI j1)), (2, .int coin), (3, .int 0), (4, .int best), (5, .int most), (6, .int cost), (7, .int (nI p)), (8, .int (s_pr A p)), (9, .int (s_wi A j1 p (nI j1))), (10, .int 0)]) dX7_hire_139 (by decide) rfl ?_
                          refine ev_iload dX7_hire_141 rfl ?_
                          refine ev_if_eq (tgt := 151) dX7_hire_143 (by decide) (fun _ => ?_) (fun c => absurd (by decide) c)
                          refine ev_iload dX7_hire_151 rfl ?_
                          refine ev_istore (lv' := [(0, .ref 65), (1, .int (nI j1)), (2, .int coin), (3, .int 0), (4, .int best), (5, .int most), (6, .int cost), (7, .int (nI p)), (8, .int (s_pr A p)), (9, .int (s_wi A j1 p (nI j1))), (10, .int 0)]) dX7_hire_153 (by decide) rfl ?_
                          refine ev_iload dX7_hire_155 rfl ?_
                          refine ev_if_eq (tgt := 165) dX7_hire_157 (by decide) (fun _ => ?_) (fun c => absurd (by decide) c)
                          refine ev_iload dX7_hire_165 rfl ?_
                          refine ev_istore (lv' := [(0, .ref 65), (1, .int (nI j1)), (2, .int coin), (3, .int 0), (4, .int best), (5, .int most), (6, .int cost), (7, .int (nI p)), (8, .int (s_pr A p)), (9, .int (s_wi A j1 p (nI j1))), (10, .int 0)]) dX7_hire_167 (by decide) rfl ?_
                          refine ev_iinc (lv' := [(0, .ref 65), (1, .int (nI j1)), (2, .int coin), (3, .int 0), (4, .int best), (5, .int most), (6, .int cost), (7, .int (nI (p + 1))), (8, .int (s_pr A p)), (9, .int (s_wi A j1 p (nI j1))), (10, .int 0)]) (v := nI (p + 1)) dX7_hire_169 rfl (nI_1 _) (by decide) rfl ?_
                          refine ev_goto (tgt := 49) dX7_hire_172 (by decide) ?_
                          refine ev_keep (lv' := [(0, .ref 65), (1, .int (nI j1)), (2, .int coin), (3, .int 0), (4, .int best), (5, .int most), (6, .int cost), (7, .int (nI (p + 1)))]) [0, 1, 2, 3, 4, 5, 6, 7] rfl ?_
                          exact ih (p + 1) best most cost σ14 (by omega) (by rw [s_hiN (fun z => z.elim (fun y => absurd y (by rw [← hm]; exact c15)) (fun y => c16 (by rw [hm]; exact y.2.1)))]; exact hb) (by rw [s_hiN (fun z => z.elim (fun y => absurd y (by rw [← hm]; exact c15)) (fun y => c16 (by rw [hm]; exact y.2.1)))]; exact hm) (by rw [s_hiN (fun z => z.elim (fun y => absurd y (by rw [← hm]; exact c15)) (fun y => c16 (by rw [hm]; exact y.2.1)))]; exact hc) hI14 (fr_M.tr (fr_M.tr hF hF11) hF14) (by omega)
                        · skip
                          refine ev_iload dX7_hire_113 rfl ?_
                          refine ev_iload dX7_hire_115 rfl ?_
                          refine ev_icmp_ge (tgt := 124) dX7_hire_117 (by decide) (fun c17 => ?_) (fun c17 => ?_)
                          · skip
                            refine ev_iconst (v := 0) dX7_hire_124 (by decide) ?_
                            refine ev_istore (lv' := [(0, .ref 65), (1, .int (nI j1)), (2, .int coin), (3, .int 0), (4, .int best), (5, .int most), (6, .int cost), (7, .int (nI p)), (8, .int (s_pr A p)), (9, .int (s_wi A j1 p (nI j1))), (10, .int 0)]) dX7_hire_125 (by decide) rfl ?_
                            refine ev_iload dX7_hire_127 rfl ?_
                            refine ev_if_eq (tgt := 137) dX7_hire_129 (by decide) (fun _ => ?_) (fun c => absurd (by decide) c)
                            refine ev_iload dX7_hire_137 rfl ?_
                            refine ev_istore (lv' := [(0, .ref 65), (1, .int (nI j1)), (2, .int coin), (3, .int 0), (4, .int best), (5, .int most), (6, .int cost), (7, .int (nI p)), (8, .int (s_pr A p)), (9, .int (s_wi A j1 p (nI j1))), (10, .int 0)]) dX7_hire_139 (by decide) rfl ?_
                            refine ev_iload dX7_hire_141 rfl ?_
                            refine ev_if_eq (tgt := 151) dX7_hire_143 (by decide) (fun _ => ?_) (fun c => absurd (by decide) c)
                            refine ev_iload dX7_hire_151 rfl ?_
                            refine ev_istore (lv' := [(0, .ref 65), (1, .int (nI j1)), (2, .int coin), (3, .int 0), (4, .int best), (5, .int most), (6, .int cost), (7, .int (nI p)), (8, .int (s_pr A p)), (9, .int (s_wi A j1 p (nI j1))), (10, .int 0)]) dX7_hire_153 (by decide) rfl ?_
                            refine ev_iload dX7_hire_155 rfl ?_
                            refine ev_if_eq (tgt := 165) dX7_hire_157 (by decide) (fun _ => ?_) (fun c => absurd (by decide) c)
                            refine ev_iload dX7_hire_165 rfl ?_
                            refine ev_istore (lv' := [(0, .ref 65), (1, .int (nI j1)), (2, .int coin), (3, .int 0), (4, .int best), (5, .int most), (6, .int cost), (7, .int (nI p)), (8, .int (s_pr A p)), (9, .int (s_wi A j1 p (nI j1))), (10, .int 0)]) dX7_hire_167 (by decide) rfl ?_
                            refine ev_iinc (lv' := [(0, .ref 65), (1, .int (nI j1)), (2, .int coin), (3, .int 0), (4, .int best), (5, .int most), (6, .int cost), (7, .int (nI (p + 1))), (8, .int (s_pr A p)), (9, .int (s_wi A j1 p (nI j1))), (10, .int 0)]) (v := nI (p + 1)) dX7_hire_169 rfl (nI_1 _) (by decide) rfl ?_
                            refine ev_goto (tgt := 49) dX7_hire_172 (by decide) ?_
                            refine ev_keep (lv' := [(0, .ref 65), (1, .int (nI j1)), (2, .int coin), (3, .int 0), (4, .int best), (5, .int most), (6, .int cost), (7, .int (nI (p + 1)))]) [0, 1, 2, 3, 4, 5, 6, 7] rfl ?_
                            exact ih (p + 1) best most cost σ14 (by omega) (by rw [s_hiN (fun z => z.elim (fun y => absurd y (by rw [← hm]; exact c15)) (fun y => absurd y.2.2 (Int32.not_lt.mpr (by rw [← hc]; exact c17))))]; exact hb) (by rw [s_hiN (fun z => z.elim (fun y => absurd y (by rw [← hm]; exact c15)) (fun y => absurd y.2.2 (Int32.not_lt.mpr (by rw [← hc]; exact c17))))]; exact hm) (by rw [s_hiN (fun z => z.elim (fun y => absurd y (by rw [← hm]; exact c15)) (fun y => absurd y.2.2 (Int32.not_lt.mpr (by rw [← hc]; exact c17))))]; exact hc) hI14 (fr_M.tr (fr_M.tr hF hF11) hF14) (by omega)
                          · skip
                            refine ev_iconst (v := 1) dX7_hire_120 (by decide) ?_
                            refine ev_goto (tgt := 125) dX7_hire_121 (by decide) ?_
                            refine ev_istore (lv' := [(0, .ref 65), (1, .int (nI j1)), (2, .int coin), (3, .int 0), (4, .int best), (5, .int most), (6, .int cost), (7, .int (nI p)), (8, .int (s_pr A p)), (9, .int (s_wi A j1 p (nI j1))), (10, .int 1)]) dX7_hire_125 (by decide) rfl ?_
                            refine ev_iload dX7_hire_127 rfl ?_
                            refine ev_if_eq (tgt := 137) dX7_hire_129 (by decide) (fun c => absurd c (by decide)) (fun _ => ?_)
                            refine ev_iload dX7_hire_132 rfl ?_
                            refine ev_goto (tgt := 139) dX7_hire_134 (by decide) ?_
                            refine ev_istore (lv' := [(0, .ref 65), (1, .int (nI j1)), (2, .int coin), (3, .int 0), (4, .int (nI p)), (5, .int most), (6, .int cost), (7, .int (nI p)), (8, .int (s_pr A p)), (9, .int (s_wi A j1 p (nI j1))), (10, .int 1)]) dX7_hire_139 (by decide) rfl ?_
                            refine ev_iload dX7_hire_141 rfl ?_
                            refine ev_if_eq (tgt := 151) dX7_hire_143 (by decide) (fun c => absurd c (by decide)) (fun _ => ?_)
                            refine ev_iload dX7_hire_146 rfl ?_
                            refine ev_goto (tgt := 153) dX7_hire_148 (by decide) ?_
                            refine ev_istore (lv' := [(0, .ref 65), (1, .int (nI j1)), (2, .int coin), (3, .int 0), (4, .int (nI p)), (5, .int (s_wi A j1 p (nI j1))), (6, .int cost), (7, .int (nI p)), (8, .int (s_pr A p)), (9, .int (s_wi A j1 p (nI j1))), (10, .int 1)]) dX7_hire_153 (by decide) rfl ?_
                            refine ev_iload dX7_hire_155 rfl ?_
                            refine ev_if_eq (tgt := 165) dX7_hire_157 (by decide) (fun c => absurd c (by decide)) (fun _ => ?_)
                            refine ev_iload dX7_hire_160 rfl ?_
                            refine ev_goto (tgt := 167) dX7_hire_162 (by decide) ?_
                            refine ev_istore (lv' := [(0, .ref 65), (1, .int (nI j1)), (2, .int coin), (3, .int 0), (4, .int (nI p)), (5, .int (s_wi A j1 p (nI j1))), (6, .int (s_pr A p)), (7, .int (nI p)), (8, .int (s_pr A p)), (9, .int (s_wi A j1 p (nI j1))), (10, .int 1)]) dX7_hire_167 (by decide) rfl ?_
                            refine ev_iinc (lv' := [(0, .ref 65), (1, .int (nI j1)), (2, .int coin), (3, .int 0), (4, .int (nI p)), (5, .int (s_wi A j1 p (nI j1))), (6, .int (s_pr A p)), (7, .int (nI (p + 1))), (8, .int (s_pr A p)), (9, .int (s_wi A j1 p (nI j1))), (10, .int 1)]) (v := nI (p + 1)) dX7_hire_169 rfl (nI_1 _) (by decide) rfl ?_
                            refine ev_goto (tgt := 49) dX7_hire_172 (by decide) ?_
                            refine ev_keep (lv' := [(0, .ref 65), (1, .int (nI j1)), (2, .int coin), (3, .int 0), (4, .int (nI p)), (5, .int (s_wi A j1 p (nI j1))), (6, .int (s_pr A p)), (7, .int (nI (p + 1)))]) [0, 1, 2, 3, 4, 5, 6, 7] rfl ?_
                            exact ih (p + 1) (nI p) (s_wi A j1 p (nI j1)) (s_pr A p) σ14 (by omega) (by rw [s_hiY ⟨c12, Int32.not_lt.mp c13⟩ (Or.inr ⟨by rw [ho]; simp, by rw [← hm]; exact c16, by rw [← hc]; exact Int32.not_le.mp c17⟩)]; rfl) (by rw [s_hiY ⟨c12, Int32.not_lt.mp c13⟩ (Or.inr ⟨by rw [ho]; simp, by rw [← hm]; exact c16, by rw [← hc]; exact Int32.not_le.mp c17⟩)]) (by rw [s_hiY ⟨c12, Int32.not_lt.mp c13⟩ (Or.inr ⟨by rw [ho]; simp, by rw [← hm]; exact c16, by rw [← hc]; exact Int32.not_le.mp c17⟩)]) hI14 (fr_M.tr (fr_M.tr hF hF11) hF14) (by omega)
          exact lp _ 0 (-1) (s_now A j1) (-1) σ4 (Nat.zero_le _) rfl rfl rfl hI4 (fr_M.tr fr_M.rf hF4) (Nat.lt_succ_self _)
        · skip
          refine ev_if_ne (tgt := 33) dX7_hire_27 (by decide) (fun _ => ?_) (fun c => absurd c (by decide))
          refine ev_iconst (v := (-1)) dX7_hire_33 (by decide) ?_
          refine ev_istore (lv' := [(0, .ref 65), (1, .int (nI j1)), (2, .int coin), (3, .int 1), (4, .int (-1))]) dX7_hire_34 (by decide) rfl ?_
          refine ev_aload_n dX7_hire_36 rfl rfl ?_
          refine ev_iload_n dX7_hire_37 rfl rfl ?_
          refine ev_callV (as := [.int (nI j1)]) (st := []) dX7_hire_38 mfX7_scoreNow lk_X7_217 (ly_k hI.ly 65 rfl) (by decide) rfl (c_X7_scoreNow G (D + 1) A σ hA hI j1 (by omega)) rfl rfl (Nat.le_of_ble_eq_true rfl) (am_hR (by omega) (by decide)) ⟨Nat.le_refl _, Nat.le_refl _⟩ ?_
          rintro _ σ18 ⟨rfl, hI18, hF18⟩
          refine ev_istore (lv' := [(0, .ref 65), (1, .int (nI j1)), (2, .int coin), (3, .int 1), (4, .int (-1)), (5, .int (s_now A j1))]) dX7_hire_41 (by decide) rfl ?_
          refine ev_iconst (v := (-1)) dX7_hire_43 (by decide) ?_
          refine ev_istore (lv' := [(0, .ref 65), (1, .int (nI j1)), (2, .int coin), (3, .int 1), (4, .int (-1)), (5, .int (s_now A j1)), (6, .int (-1))]) dX7_hire_44 (by decide) rfl ?_
          refine ev_iconst (v := 0) dX7_hire_46 (by decide) ?_
          refine ev_istore (lv' := [(0, .ref 65), (1, .int (nI j1)), (2, .int coin), (3, .int 1), (4, .int (-1)), (5, .int (s_now A j1)), (6, .int (-1)), (7, .int 0)]) dX7_hire_47 (by decide) rfl ?_
          have lp : ∀ (f : Nat) (p : Nat) (best : Int32) (most : Int32) (cost : Int32) (σ1 : am_M), (p ≤ s_np A) → (best = s_bi (s_hi A j1 coin p).1) → (most = (s_hi A j1 coin p).2.1) → (cost = (s_hi A j1 coin p).2.2) → (iv_M A σ1) → (fr_M σ σ1) → s_np A - p < f → am_Ev G mX7_hire (am_R (D + 10) 0 0) 0 0 (am_qM A (.int (sp_hire A (nI j1) coin 1)) σ) 49 [(0, .ref 65), (1, .int (nI j1)), (2, .int coin), (3, .int 1), (4, .int best), (5, .int most), (6, .int cost), (7, .int (nI p))] [] σ1 0 0 := by
            intro f
            induction f with
            | zero => intro p best most cost σ1 hp hb hm hc hI hF hf; exact absurd hf (Nat.not_lt_zero _)
            | succ f ih =>
              intro p best most cost σ1 hp hb hm hc hI hF hf
              refine ev_iload dX7_hire_49 rfl ?_
              refine ev_aload_n dX7_hire_51 rfl rfl ?_
              refine ev_getI (v := nI (s_np A)) dX7_hire_52 fl_X7_87 (ly_k hI.ly 65 rfl) ((hI.rd 65 0 rfl).trans (wf_np hA)) ?_
              refine ev_icmp_ge (tgt := 175) dX7_hire_55 (by decide) (fun c19 => ?_) (fun c19 => ?_)
              · skip
                have c19n : (s_np A) ≤ p := (nI_leI (a := (s_np A)) (b := p) (by omega) (by omega)).mp c19
                refine ev_iload_n dX7_hire_175 rfl rfl ?_
                refine ev_if_ne (tgt := 184) dX7_hire_176 (by decide) (fun _ => ?_) (fun c => absurd c (by decide))
                refine ev_iload dX7_hire_184 rfl ?_
                refine ev_reti dX7_hire_186 rfl (Nat.zero_le _) (Nat.zero_le _) ?_
                have e : p = s_np A := by omega
                subst e
                refine ⟨?_, hI, hF⟩
                rw [hc]
                simp [sp_hire, hk, am_inN h1 (by omega), sN_n (show j1 < 2 ^ 31 by omega)]
              · skip
                have c19n : ¬ (s_np A) ≤ p := fun zz => c19 ((nI_leI (a := (s_np A)) (b := p) (by omega) (by omega)).mpr zz)
                cases ho : (s_hi A j1 coin p).1 with
                | none =>
                  refine ev_aload_n dX7_hire_58 rfl rfl ?_
                  refine ev_iload dX7_hire_59 rfl ?_
                  refine ev_callV (as := [.int (nI p)]) (st := []) dX7_hire_61 mfX7_priceOf lk_X7_241 (ly_k hI.ly 65 rfl) (by decide) rfl (c_X7_priceOf G (D + 6) A σ1 hA hI p (by omega)) rfl rfl (Nat.le_of_ble_eq_true rfl) (am_hR (by omega) (by decide)) ⟨Nat.le_refl _, Nat.le_refl _⟩ ?_
                  rintro _ σ20 ⟨rfl, hI20, hF20⟩
                  refine ev_istore (lv' := [(0, .ref 65), (1, .int (nI j1)), (2, .int coin), (3, .int 1), (4, .int best), (5, .int most), (6, .int cost), (7, .int (nI p)), (8, .int (s_pr A p))]) dX7_hire_64 (by decide) rfl ?_
                  refine ev_aload_n dX7_hire_66 rfl rfl ?_
                  refine ev_getR (b := 69) dX7_hire_67 fl_X7_19 (ly_k hI20.ly 65 rfl) (ly_r hI20.ly 32 rfl) ?_
                  refine ev_iload dX7_hire_70 rfl ?_
                  refine ev_iald (v := A 69 p) dX7_hire_72 (ly_k hI20.ly 69 rfl) (am_ixn (by omega) (by decide)) (hI20.rd 69 p rfl) ?_
                  refine ev_iconst (v := (-1)) dX7_hire_73 (by decide) ?_
                  refine ev_icmp_ne (tgt := 169) dX7_hire_74 (by decide) (fun c21 => ?_) (fun c21 => ?_)
                  · skip
                    refine ev_iinc (lv' := [(0, .ref 65), (1, .int (nI j1)), (2, .int coin), (3, .int 1), (4, .int best), (5, .int most), (6, .int cost), (7, .int (nI (p + 1))), (8, .int (s_pr A p))]) (v := nI (p + 1)) dX7_hire_169 rfl (nI_1 _) (by decide) rfl ?_
                    refine ev_goto (tgt := 49) dX7_hire_172 (by decide) ?_
                    refine ev_keep (lv' := [(0, .ref 65), (1, .int (nI j1)), (2, .int coin), (3, .int 1), (4, .int best), (5, .int most), (6, .int cost), (7, .int (nI (p + 1)))]) [0, 1, 2, 3, 4, 5, 6, 7] rfl ?_
                    exact ih (p + 1) best most cost σ20 (by omega) (by rw [s_hiF (fun z => c21 z.1)]; exact hb) (by rw [s_hiF (fun z => c21 z.1)]; exact hm) (by rw [s_hiF (fun z => c21 z.1)]; exact hc) hI20 (fr_M.tr hF hF20) (by omega)
                  · skip
                    refine ev_iload dX7_hire_77 rfl ?_
                    refine ev_iload_n dX7_hire_79 rfl rfl ?_
                    refine ev_icmp_gt (tgt := 169) dX7_hire_80 (by decide) (fun c22 => ?_) (fun c22 => ?_)
                    · skip
                      refine ev_iinc (lv' := [(0, .ref 65), (1, .int (nI j1)), (2, .int coin), (3, .int 1), (4, .int best), (5, .int most), (6, .int cost), (7, .int (nI (p + 1))), (8, .int (s_pr A p))]) (v := nI (p + 1)) dX7_hire_169 rfl (nI_1 _) (by decide) rfl ?_
                      refine ev_goto (tgt := 49) dX7_hire_172 (by decide) ?_
                      refine ev_keep (lv' := [(0, .ref 65), (1, .int (nI j1)), (2, .int coin), (3, .int 1), (4, .int best), (5, .int most), (6, .int cost), (7, .int (nI (p + 1)))]) [0, 1, 2, 3, 4, 5, 6, 7] rfl ?_
                      exact ih (p + 1) best most cost σ20 (by omega) (by rw [s_hiF (fun z => absurd z.2 (Int32.not_le.mpr c22))]; exact hb) (by rw [s_hiF (fun z => absurd z.2 (Int32.not_le.mpr c22))]; exact hm) (by rw [s_hiF (fun z => absurd z.2 (Int32.not_le.mpr c22))]; exact hc) hI20 (fr_M.tr hF hF20) (by omega)
                    · skip
                      refine ev_aload_n dX7_hire_83 rfl rfl ?_
                      refine ev_iload_n dX7_hire_84 rfl rfl ?_
                      refine ev_iload dX7_hire_85 rfl ?_
                      refine ev_iload_n dX7_hire_87 rfl rfl ?_
                      refine ev_callV (as := [.int (nI j1), .int (nI p), .int (nI j1)]) (st := []) dX7_hire_88 mfX7_scoreWith lk_X7_232 (ly_k hI20.ly 65 rfl) (by decide) rfl (c_X7_scoreWith G D A σ20 hA hI20 j1 p (nI j1) (by omega) (by omega) (Or.inr ⟨_, by omega, rfl⟩)) rfl rfl (Nat.le_of_ble_eq_true rfl) (am_hR (by omega) (by decide)) ⟨Nat.le_refl _, Nat.le_refl _⟩ ?_
                      rintro _ σ23 ⟨rfl, hI23, hF23⟩
                      refine ev_istore (lv' := [(0, .ref 65), (1, .int (nI j1)), (2, .int coin), (3, .int 1), (4, .int best), (5, .int most), (6, .int cost), (7, .int (nI p)), (8, .int (s_pr A p)), (9, .int (s_wi A j1 p (nI j1)))]) dX7_hire_91 (by decide) rfl ?_
                      refine ev_iload dX7_hire_93 rfl ?_
                      refine ev_iload dX7_hire_95 rfl ?_
                      refine ev_icmp_gt (tgt := 120) dX7_hire_97 (by decide) (fun c24 => ?_) (fun c24 => ?_)
                      · skip
                        refine ev_iconst (v := 1) dX7_hire_120 (by decide) ?_
                        refine ev_goto (tgt := 125) dX7_hire_121 (by decide) ?_
                        refine ev_istore (lv' := [(0, .ref 65), (1, .int (nI j1)), (2, .int coin), (3, .int 1), (4, .int best), (5, .int most), (6, .int cost), (7, .int (nI p)), (8, .int (s_pr A p)), (9, .int (s_wi A j1 p (nI j1))), (10, .int 1)]) dX7_hire_125 (by decide) rfl ?_
                        refine ev_iload dX7_hire_127 rfl ?_
                        refine ev_if_eq (tgt := 137) dX7_hire_129 (by decide) (fun c => absurd c (by decide)) (fun _ => ?_)
                        refine ev_iload dX7_hire_132 rfl ?_
                        refine ev_goto (tgt := 139) dX7_hire_134 (by decide) ?_
                        refine ev_istore (lv' := [(0, .ref 65), (1, .int (nI j1)), (2, .int coin), (3, .int 1), (4, .int (nI p)), (5, .int most), (6, .int cost), (7, .int (nI p)), (8, .int (s_pr A p)), (9, .int (s_wi A j1 p (nI j1))), (10, .int 1)]) dX7_hire_139 (by decide) rfl ?_
                        refine ev_iload dX7_hire_141 rfl ?_
                        refine ev_if_eq (tgt := 151) dX7_hire_143 (by decide) (fun c => absurd c (by decide)) (fun _ => ?_)
                        refine ev_iload dX7_hire_146 rfl ?_
                        refine ev_goto (tgt := 153) dX7_hire_148 (by decide) ?_
                        refine ev_istore (lv' := [(0, .ref 65), (1, .int (nI j1)), (2, .int coin), (3, .int 1), (4, .int (nI p)), (5, .int (s_wi A j1 p (nI j1))), (6, .int cost), (7, .int (nI p)), (8, .int (s_pr A p)), (9, .int (s_wi A j1 p (nI j1))), (10, .int 1)]) dX7_hire_153 (by decide) rfl ?_
                        refine ev_iload dX7_hire_155 rfl ?_
                        refine ev_if_eq (tgt := 165) dX7_hire_157 (by decide) (fun c => absurd c (by decide)) (fun _ => ?_)
                        refine ev_iload dX7_hire_160 rfl ?_
                        refine ev_goto (tgt := 167) dX7_hire_162 (by decide) ?_
                        refine ev_istore (lv' := [(0, .ref 65), (1, .int (nI j1)), (2, .int coin), (3, .int 1), (4, .int (nI p)), (5, .int (s_wi A j1 p (nI j1))), (6, .int (s_pr A p)), (7, .int (nI p)), (8, .int (s_pr A p)), (9, .int (s_wi A j1 p (nI j1))), (10, .int 1)]) dX7_hire_167 (by decide) rfl ?_
                        refine ev_iinc (lv' := [(0, .ref 65), (1, .int (nI j1)), (2, .int coin), (3, .int 1), (4, .int (nI p)), (5, .int (s_wi A j1 p (nI j1))), (6, .int (s_pr A p)), (7, .int (nI (p + 1))), (8, .int (s_pr A p)), (9, .int (s_wi A j1 p (nI j1))), (10, .int 1)]) (v := nI (p + 1)) dX7_hire_169 rfl (nI_1 _) (by decide) rfl ?_
                        refine ev_goto (tgt := 49) dX7_hire_172 (by decide) ?_
                        refine ev_keep (lv' := [(0, .ref 65), (1, .int (nI j1)), (2, .int coin), (3, .int 1), (4, .int (nI p)), (5, .int (s_wi A j1 p (nI j1))), (6, .int (s_pr A p)), (7, .int (nI (p + 1)))]) [0, 1, 2, 3, 4, 5, 6, 7] rfl ?_
                        exact ih (p + 1) (nI p) (s_wi A j1 p (nI j1)) (s_pr A p) σ23 (by omega) (by rw [s_hiY ⟨c21, Int32.not_lt.mp c22⟩ (Or.inl (by rw [← hm]; exact c24))]; rfl) (by rw [s_hiY ⟨c21, Int32.not_lt.mp c22⟩ (Or.inl (by rw [← hm]; exact c24))]) (by rw [s_hiY ⟨c21, Int32.not_lt.mp c22⟩ (Or.inl (by rw [← hm]; exact c24))]) hI23 (fr_M.tr (fr_M.tr hF hF20) hF23) (by omega)
                      · skip
                        refine ev_iload dX7_hire_100 rfl ?_
                        refine ev_iconst (v := (-1)) dX7_hire_102 (by decide) ?_
                        refine ev_icmp_eq (tgt := 124) dX7_hire_103 (by decide) (fun _ => ?_) (fun c => absurd ((by rw [hb, ho]; rfl)) c)
                        refine ev_iconst (v := 0) dX7_hire_124 (by decide) ?_
                        refine ev_istore (lv' := [(0, .ref 65), (1, .int (nI j1)), (2, .int coin), (3, .int 1), (4, .int best), (5, .int most), (6, .int cost), (7, .int (nI p)), (8, .int (s_pr A p)), (9, .int (s_wi A j1 p (nI j1))), (10, .int 0)]) dX7_hire_125 (by decide) rfl ?_
                        refine ev_iload dX7_hire_127 rfl ?_
                        refine ev_if_eq (tgt := 137) dX7_hire_129 (by decide) (fun _ => ?_) (fun c => absurd (by decide) c)
                        refine ev_iload dX7_hire_137 rfl ?_
                        refine ev_istore (lv' := [(0, .ref 65), (1, .int (nI j1)), (2, .int coin), (3, .int 1), (4, .int best), (5, .int most), (6, .int cost), (7, .int (nI p)), (8, .int (s_pr A p)), (9, .int (s_wi A j1 p (nI j1))), (10, .int 0)]) dX7_hire_139 (by decide) rfl ?_
                        refine ev_iload dX7_hire_141 rfl ?_
                        refine ev_if_eq (tgt := 151) dX7_hire_143 (by decide) (fun _ => ?_) (fun c => absurd (by decide) c)
                        refine ev_iload dX7_hire_151 rfl ?_
                        refine ev_istore (lv' := [(0, .ref 65), (1, .int (nI j1)), (2, .int coin), (3, .int 1), (4, .int best), (5, .int most), (6, .int cost), (7, .int (nI p)), (8, .int (s_pr A p)), (9, .int (s_wi A j1 p (nI j1))), (10, .int 0)]) dX7_hire_153 (by decide) rfl ?_
                        refine ev_iload dX7_hire_155 rfl ?_
                        refine ev_if_eq (tgt := 165) dX7_hire_157 (by decide) (fun _ => ?_) (fun c => absurd (by decide) c)
                        refine ev_iload dX7_hire_165 rfl ?_
                        refine ev_istore (lv' := [(0, .ref 65), (1, .int (nI j1)), (2, .int coin), (3, .int 1), (4, .int best), (5, .int most), (6, .int cost), (7, .int (nI p)), (8, .int (s_pr A p)), (9, .int (s_wi A j1 p (nI j1))), (10, .int 0)]) dX7_hire_167 (by decide) rfl ?_
                        refine ev_iinc (lv' := [(0, .ref 65), (1, .int (nI j1)), (2, .int coin), (3, .int 1), (4, .int best), (5, .int most), (6, .int cost), (7, .int (nI (p + 1))), (8, .int (s_pr A p)), (9, .int (s_wi A j1 p (nI j1))), (10, .int 0)]) (v := nI (p + 1)) dX7_hire_169 rfl (nI_1 _) (by decide) rfl ?_
                        refine ev_goto (tgt := 49) dX7_hire_172 (by decide) ?_
                        refine ev_keep (lv' := [(0, .ref 65), (1, .int (nI j1)), (2, .int coin), (3, .int 1), (4, .int best), (5, .int most), (6, .int cost), (7, .int (nI (p + 1)))]) [0, 1, 2, 3, 4, 5, 6, 7] rfl ?_
                        exact ih (p + 1) best most cost σ23 (by omega) (by rw [s_hiN (fun z => z.elim (fun y => absurd y (by rw [← hm]; exact c24)) (fun y => y.1 ho))]; exact hb) (by rw [s_hiN (fun z => z.elim (fun y => absurd y (by rw [← hm]; exact c24)) (fun y => y.1 ho))]; exact hm) (by rw [s_hiN (fun z => z.elim (fun y => absurd y (by rw [← hm]; exact c24)) (fun y => y.1 ho))]; exact hc) hI23 (fr_M.tr (fr_M.tr hF hF20) hF23) (by omega)
                | some b =>
                  have hbl := s_hilt ho
                  refine ev_aload_n dX7_hire_58 rfl rfl ?_
                  refine ev_iload dX7_hire_59 rfl ?_
                  refine ev_callV (as := [.int (nI p)]) (st := []) dX7_hire_61 mfX7_priceOf lk_X7_241 (ly_k hI.ly 65 rfl) (by decide) rfl (c_X7_priceOf G (D + 6) A σ1 hA hI p (by omega)) rfl rfl (Nat.le_of_ble_eq_true rfl) (am_hR (by omega) (by decide)) ⟨Nat.le_refl _, Nat.le_refl _⟩ ?_
                  rintro _ σ25 ⟨rfl, hI25, hF25⟩
                  refine ev_istore (lv' := [(0, .ref 65), (1, .int (nI j1)), (2, .int coin), (3, .int 1), (4, .int best), (5, .int most), (6, .int cost), (7, .int (nI p)), (8, .int (s_pr A p))]) dX7_hire_64 (by decide) rfl ?_
                  refine ev_aload_n dX7_hire_66 rfl rfl ?_
                  refine ev_getR (b := 69) dX7_hire_67 fl_X7_19 (ly_k hI25.ly 65 rfl) (ly_r hI25.ly 32 rfl) ?_
                  refine ev_iload dX7_hire_70 rfl ?_
                  refine ev_iald (v := A 69 p) dX7_hire_72 (ly_k hI25.ly 69 rfl) (am_ixn (by omega) (by decide)) (hI25.rd 69 p rfl) ?_
                  refine ev_iconst (v := (-1)) dX7_hire_73 (by decide) ?_
                  refine ev_icmp_ne (tgt := 169) dX7_hire_74 (by decide) (fun c26 => ?_) (fun c26 => ?_)
                  · skip
                    refine ev_iinc (lv' := [(0, .ref 65), (1, .int (nI j1)), (2, .int coin), (3, .int 1), (4, .int best), (5, .int most), (6, .int cost), (7, .int (nI (p + 1))), (8, .int (s_pr A p))]) (v := nI (p + 1)) dX7_hire_169 rfl (nI_1 _) (by decide) rfl ?_
                    refine ev_goto (tgt := 49) dX7_hire_172 (by decide) ?_
                    refine ev_keep (lv' := [(0, .ref 65), (1, .int (nI j1)), (2, .int coin), (3, .int 1), (4, .int best), (5, .int most), (6, .int cost), (7, .int (nI (p + 1)))]) [0, 1, 2, 3, 4, 5, 6, 7] rfl ?_
                    exact ih (p + 1) best most cost σ25 (by omega) (by rw [s_hiF (fun z => c26 z.1)]; exact hb) (by rw [s_hiF (fun z => c26 z.1)]; exact hm) (by rw [s_hiF (fun z => c26 z.1)]; exact hc) hI25 (fr_M.tr hF hF25) (by omega)
                  · skip
                    refine ev_iload dX7_hire_77 rfl ?_
                    refine ev_iload_n dX7_hire_79 rfl rfl ?_
                    refine ev_icmp_gt (tgt := 169) dX7_hire_80 (by decide) (fun c27 => ?_) (fun c27 => ?_)
                    · skip
                      refine ev_iinc (lv' := [(0, .ref 65), (1, .int (nI j1)), (2, .int coin), (3, .int 1), (4, .int best), (5, .int most), (6, .int cost), (7, .int (nI (p + 1))), (8, .int (s_pr A p))]) (v := nI (p + 1)) dX7_hire_169 rfl (nI_1 _) (by decide) rfl ?_
                      refine ev_goto (tgt := 49) dX7_hire_172 (by decide) ?_
                      refine ev_keep (lv' := [(0, .ref 65), (1, .int (nI j1)), (2, .int coin), (3, .int 1), (4, .int best), (5, .int most), (6, .int cost), (7, .int (nI (p + 1)))]) [0, 1, 2, 3, 4, 5, 6, 7] rfl ?_
                      exact ih (p + 1) best most cost σ25 (by omega) (by rw [s_hiF (fun z => absurd z.2 (Int32.not_le.mpr c27))]; exact hb) (by rw [s_hiF (fun z => absurd z.2 (Int32.not_le.mpr c27))]; exact hm) (by rw [s_hiF (fun z => absurd z.2 (Int32.not_le.mpr c27))]; exact hc) hI25 (fr_M.tr hF hF25) (by omega)
                    · skip
                      refine ev_aload_n dX7_hire_83 rfl rfl ?_
                      refine ev_iload_n dX7_hire_84 rfl rfl ?_
                      refine ev_iload dX7_hire_85 rfl ?_
                      refine ev_iload_n dX7_hire_87 rfl rfl ?_
                      refine ev_callV (as := [.int (nI j1), .int (nI p), .int (nI j1)]) (st := []) dX7_hire_88 mfX7_scoreWith lk_X7_232 (ly_k hI25.ly 65 rfl) (by decide) rfl (c_X7_scoreWith G D A σ25 hA hI25 j1 p (nI j1) (by omega) (by omega) (Or.inr ⟨_, by omega, rfl⟩)) rfl rfl (Nat.le_of_ble_eq_true rfl) (am_hR (by omega) (by decide)) ⟨Nat.le_refl _, Nat.le_refl _⟩ ?_
                      rintro _ σ28 ⟨rfl, hI28, hF28⟩
                      refine ev_istore (lv' := [(0, .ref 65), (1, .int (nI j1)), (2, .int coin), (3, .int 1), (4, .int best), (5, .int most), (6, .int cost), (7, .int (nI p)), (8, .int (s_pr A p)), (9, .int (s_wi A j1 p (nI j1)))]) dX7_hire_91 (by decide) rfl ?_
                      refine ev_iload dX7_hire_93 rfl ?_
                      refine ev_iload dX7_hire_95 rfl ?_
                      refine ev_icmp_gt (tgt := 120) dX7_hire_97 (by decide) (fun c29 => ?_) (fun c29 => ?_)
                      · skip
                        refine ev_iconst (v := 1) dX7_hire_120 (by decide) ?_
                        refine ev_goto (tgt := 125) dX7_hire_121 (by decide) ?_
                        refine ev_istore (lv' := [(0, .ref 65), (1, .int (nI j1)), (2, .int coin), (3, .int 1), (4, .int best), (5, .int most), (6, .int cost), (7, .int (nI p)), (8, .int (s_pr A p)), (9, .int (s_wi A j1 p (nI j1))), (10, .int 1)]) dX7_hire_125 (by decide) rfl ?_
                        refine ev_iload dX7_hire_127 rfl ?_
                        refine ev_if_eq (tgt := 137) dX7_hire_129 (by decide) (fun c => absurd c (by decide)) (fun _ => ?_)
                        refine ev_iload dX7_hire_132 rfl ?_
                        refine ev_goto (tgt := 139) dX7_hire_134 (by decide) ?_
                        refine ev_istore (lv' := [(0, .ref 65), (1, .int (nI j1)), (2, .int coin), (3, .int 1), (4, .int (nI p)), (5, .int most), (6, .int cost), (7, .int (nI p)), (8, .int (s_pr A p)), (9, .int (s_wi A j1 p (nI j1))), (10, .int 1)]) dX7_hire_139 (by decide) rfl ?_
                        refine ev_iload dX7_hire_141 rfl ?_
                        refine ev_if_eq (tgt := 151) dX7_hire_143 (by decide) (fun c => absurd c (by decide)) (fun _ => ?_)
                        refine ev_iload dX7_hire_146 rfl ?_
                        refine ev_goto (tgt := 153) dX7_hire_148 (by decide) ?_
                        refine ev_istore (lv' := [(0, .ref 65), (1, .int (nI j1)), (2, .int coin), (3, .int 1), (4, .int (nI p)), (5, .int (s_wi A j1 p (nI j1))), (6, .int cost), (7, .int (nI p)), (8, .int (s_pr A p)), (9, .int (s_wi A j1 p (nI j1))), (10, .int 1)]) dX7_hire_153 (by decide) rfl ?_
                        refine ev_iload dX7_hire_155 rfl ?_
                        refine ev_if_eq (tgt := 165) dX7_hire_157 (by decide) (fun c => absurd c (by decide)) (fun _ => ?_)
                        refine ev_iload dX7_hire_160 rfl ?_
                        refine ev_goto (tgt := 167) dX7_hire_162 (by decide) ?_
                        refine ev_istore (lv' := [(0, .ref 65), (1, .int (nI j1)), (2, .int coin), (3, .int 1), (4, .int (nI p)), (5, .int (s_wi A j1 p (nI j1))), (6, .int (s_pr A p)), (7, .int (nI p)), (8, .int (s_pr A p)), (9, .int (s_wi A j1 p (nI j1))), (10, .int 1)]) dX7_hire_167 (by decide) rfl ?_
                        refine ev_iinc (lv' := [(0, .ref 65), (1, .int (nI j1)), (2, .int coin), (3, .int 1), (4, .int (nI p)), (5, .int (s_wi A j1 p (nI j1))), (6, .int (s_pr A p)), (7, .int (nI (p + 1))), (8, .int (s_pr A p)), (9, .int (s_wi A j1 p (nI j1))), (10, .int 1)]) (v := nI (p + 1)) dX7_hire_169 rfl (nI_1 _) (by decide) rfl ?_
                        refine ev_goto (tgt := 49) dX7_hire_172 (by decide) ?_
                        refine ev_keep (lv' := [(0, .ref 65), (1, .int (nI j1)), (2, .int coin), (3, .int 1), (4, .int (nI p)), (5, .int (s_wi A j1 p (nI j1))), (6, .int (s_pr A p)), (7, .int (nI (p + 1)))]) [0, 1, 2, 3, 4, 5, 6, 7] rfl ?_
                        exact ih (p + 1) (nI p) (s_wi A j1 p (nI j1)) (s_pr A p) σ28 (by omega) (by rw [s_hiY ⟨c26, Int32.not_lt.mp c27⟩ (Or.inl (by rw [← hm]; exact c29))]; rfl) (by rw [s_hiY ⟨c26, Int32.not_lt.mp c27⟩ (Or.inl (by rw [← hm]; exact c29))]) (by rw [s_hiY ⟨c26, Int32.not_lt.mp c27⟩ (Or.inl (by rw [← hm]; exact c29))]) hI28 (fr_M.tr (fr_M.tr hF hF25) hF28) (by omega)
                      · skip
                        refine ev_iload dX7_hire_100 rfl ?_
                        refine ev_iconst (v := (-1)) dX7_hire_102 (by decide) ?_
                        refine ev_icmp_eq (tgt := 124) dX7_hire_103 (by decide) (fun c => absurd c ((by rw [hb, ho]; exact s_bi_n (by omega)))) (fun _ => ?_)
                        refine ev_iload dX7_hire_106 rfl ?_
                        refine ev_iload dX7_hire_108 rfl ?_
                        refine ev_icmp_ne (tgt := 124) dX7_hire_110 (by decide) (fun c30 => ?_) (fun c30 => ?_)
                        · skip
                          refine ev_iconst (v := 0) dX7_hire_124 (by decide) ?_
                          refine ev_istore (lv' := [(0, .ref 65), (1, .int (nI j1)), (2, .int coin), (3, .int 1), (4, .int best), (5, .int most), (6, .int cost), (7, .int (nI p)), (8, .int (s_pr A p)), (9, .int (s_wi A j1 p (nI j1))), (10, .int 0)]) dX7_hire_125 (by decide) rfl ?_
                          refine ev_iload dX7_hire_127 rfl ?_
                          refine ev_if_eq (tgt := 137) dX7_hire_129 (by decide) (fun _ => ?_) (fun c => absurd (by decide) c)
                          refine ev_iload dX7_hire_137 rfl ?_
                          refine ev_istore (lv' := [(0, .ref 65), (1, .int (nI j1)), (2, .int coin), (3, .int 1), (4, .int best), (5, .int most), (6, .int cost), (7, .int (nI p)), (8, .int (s_pr A p)), (9, .int (s_wi A j1 p (nI j1))), (10, .int 0)]) dX7_hire_139 (by decide) rfl ?_
                          refine ev_iload dX7_hire_141 rfl ?_
                          refine ev_if_eq (tgt := 151) dX7_hire_143 (by decide) (fun _ => ?_) (fun c => absurd (by decide) c)
                          refine ev_iload dX7_hire_151 rfl ?_
                          refine ev_istore (lv' := [(0, .ref 65), (1, .int (nI j1)), (2, .int coin), (3, .int 1), (4, .int best), (5, .int most), (6, .int cost), (7, .int (nI p)), (8, .int (s_pr A p)), (9, .int (s_wi A j1 p (nI j1))), (10, .int 0)]) dX7_hire_153 (by decide) rfl ?_
                          refine ev_iload dX7_hire_155 rfl ?_
                          refine ev_if_eq (tgt := 165) dX7_hire_157 (by decide) (fun _ => ?_) (fun c => absurd (by decide) c)
                          refine ev_iload dX7_hire_165 rfl ?_
                          refine ev_istore (lv' := [(0, .ref 65), (1, .int (nI j1)), (2, .int coin), (3, .int 1), (4, .int best), (5, .int most), (6, .int cost), (7, .int (nI p)), (8, .int (s_pr A p)), (9, .int (s_wi A j1 p (nI j1))), (10, .int 0)]) dX7_hire_167 (by decide) rfl ?_
                          refine ev_iinc (lv' := [(0, .ref 65), (1, .int (nI j1)), (2, .int coin), (3, .int 1), (4, .int best), (5, .int most), (6, .int cost), (7, .int (nI (p + 1))), (8, .int (s_pr A p)), (9, .int (s_wi A j1 p (nI j1))), (10, .int 0)]) (v := nI (p + 1)) dX7_hire_169 rfl (nI_1 _) (by decide) rfl ?_
                          refine ev_goto (tgt := 49) dX7_hire_172 (by decide) ?_
                          refine ev_keep (lv' := [(0, .ref 65), (1, .int (nI j1)), (2, .int coin), (3, .int 1), (4, .int best), (5, .int most), (6, .int cost), (7, .int (nI (p + 1)))]) [0, 1, 2, 3, 4, 5, 6, 7] rfl ?_
                          exact ih (p + 1) best most cost σ28 (by omega) (by rw [s_hiN (fun z => z.elim (fun y => absurd y (by rw [← hm]; exact c29)) (fun y => c30 (by rw [hm]; exact y.2.1)))]; exact hb) (by rw [s_hiN (fun z => z.elim (fun y => absurd y (by rw [← hm]; exact c29)) (fun y => c30 (by rw [hm]; exact y.2.1)))]; exact hm) (by rw [s_hiN (fun z => z.elim (fun y => absurd y (by rw [← hm]; exact c29)) (fun y => c30 (by rw [hm]; exact y.2.1)))]; exact hc) hI28 (fr_M.tr (fr_M.tr hF hF25) hF28) (by omega)
                        · skip
                          refine ev_iload dX7_hire_113 rfl ?_
                          refine ev_iload dX7_hire_115 rfl ?_
                          refine ev_icmp_ge (tgt := 124) dX7_hire_117 (by decide) (fun c31 => ?_) (fun c31 => ?_)
                          · skip
                            refine ev_iconst (v := 0) dX7_hire_124 (by decide) ?_
                            refine ev_istore (lv' := [(0, .ref 65), (1, .int (nI j1)), (2, .int coin), (3, .int 1), (4, .int best), (5, .int most), (6, .int cost), (7, .int (nI p)), (8, .int (s_pr A p)), (9, .int (s_wi A j1 p (nI j1))), (10, .int 0)]) dX7_hire_125 (by decide) rfl ?_
                            refine ev_iload dX7_hire_127 rfl ?_
                            refine ev_if_eq (tgt := 137) dX7_hire_129 (by decide) (fun _ => ?_) (fun c => absurd (by decide) c)
                            refine ev_iload dX7_hire_137 rfl ?_
                            refine ev_istore (lv' := [(0, .ref 65), (1, .int (nI j1)), (2, .int coin), (3, .int 1), (4, .int best), (5, .int most), (6, .int cost), (7, .int (nI p)), (8, .int (s_pr A p)), (9, .int (s_wi A j1 p (nI j1))), (10, .int 0)]) dX7_hire_139 (by decide) rfl ?_
                            refine ev_iload dX7_hire_141 rfl ?_
                            refine ev_if_eq (tgt := 151) dX7_hire_143 (by decide) (fun _ => ?_) (fun c => absurd (by decide) c)
                            refine ev_iload dX7_hire_151 rfl ?_
                            refine ev_istore (lv' := [(0, .ref 65), (1, .int (nI j1)), (2, .int coin), (3, .int 1), (4, .int best), (5, .int most), (6, .int cost), (7, .int (nI p)), (8, .int (s_pr A p)), (9, .int (s_wi A j1 p (nI j1))), (10, .int 0)]) dX7_hire_153 (by decide) rfl ?_
                            refine ev_iload dX7_hire_155 rfl ?_
                            refine ev_if_eq (tgt := 165) dX7_hire_157 (by decide) (fun _ => ?_) (fun c => absurd (by decide) c)
                            refine ev_iload dX7_hire_165 rfl ?_
                            refine ev_istore (lv' := [(0, .ref 65), (1, .int (nI j1)), (2, .int coin), (3, .int 1), (4, .int best), (5, .int most), (6, .int cost), (7, .int (nI p)), (8, .int (s_pr A p)), (9, .int (s_wi A j1 p (nI j1))), (10, .int 0)]) dX7_hire_167 (by decide) rfl ?_
                            refine ev_iinc (lv' := [(0, .ref 65), (1, .int (nI j1)), (2, .int coin), (3, .int 1), (4, .int best), (5, .int most), (6, .int cost), (7, .int (nI (p + 1))), (8, .int (s_pr A p)), (9, .int (s_wi A j1 p (nI j1))), (10, .int 0)]) (v := nI (p + 1)) dX7_hire_169 rfl (nI_1 _) (by decide) rfl ?_
                            refine ev_goto (tgt := 49) dX7_hire_172 (by decide) ?_
                            refine ev_keep (lv' := [(0, .ref 65), (1, .int (nI j1)), (2, .int coin), (3, .int 1), (4, .int best), (5, .int most), (6, .int cost), (7, .int (nI (p + 1)))]) [0, 1, 2, 3, 4, 5, 6, 7] rfl ?_
                            exact ih (p + 1) best most cost σ28 (by omega) (by rw [s_hiN (fun z => z.elim (fun y => absurd y (by rw [← hm]; exact c29)) (fun y => absurd y.2.2 (Int32.not_lt.mpr (by rw [← hc]; exact c31))))]; exact hb) (by rw [s_hiN (fun z => z.elim (fun y => absurd y (by rw [← hm]; exact c29)) (fun y => absurd y.2.2 (Int32.not_lt.mpr (by rw [← hc]; exact c31))))]; exact hm) (by rw [s_hiN (fun z => z.elim (fun y => absurd y (by rw [← hm]; exact c29)) (fun y => absurd y.2.2 (Int32.not_lt.mpr (by rw [← hc]; exact c31))))]; exact hc) hI28 (fr_M.tr (fr_M.tr hF hF25) hF28) (by omega)
                          · skip
                            refine ev_iconst (v := 1) dX7_hire_120 (by decide) ?_
                            refine ev_goto (tgt := 125) dX7_hire_121 (by decide) ?_
                            refine ev_istore (lv' := [(0, .ref 65), (1, .int (nI j1)), (2, .int coin), (3, .int 1), (4, .int best), (5, .int most), (6, .int cost), (7, .int (nI p)), (8, .int (s_pr A p)), (9, .int (s_wi A j1 p (nI j1))), (10, .int 1)]) dX7_hire_125 (by decide) rfl ?_
                            refine ev_iload dX7_hire_127 rfl ?_
                            refine ev_if_eq (tgt := 137) dX7_hire_129 (by decide) (fun c => absurd c (by decide)) (fun _ => ?_)
                            refine ev_iload dX7_hire_132 rfl ?_
                            refine ev_goto (tgt := 139) dX7_hire_134 (by decide) ?_
                            refine ev_istore (lv' := [(0, .ref 65), (1, .int (nI j1)), (2, .int coin), (3, .int 1), (4, .int (nI p)), (5, .int most), (6, .int cost), (7, .int (nI p)), (8, .int (s_pr A p)), (9, .int (s_wi A j1 p (nI j1))), (10, .int 1)]) dX7_hire_139 (by decide) rfl ?_
                            refine ev_iload dX7_hire_141 rfl ?_
                            refine ev_if_eq (tgt := 151) dX7_hire_143 (by decide) (fun c => absurd c (by decide)) (fun _ => ?_)
                            refine ev_iload dX7_hire_146 rfl ?_
                            refine ev_goto (tgt := 153) dX7_hire_148 (by decide) ?_
                            refine ev_istore (lv' := [(0, .ref 65), (1, .int (nI j1)), (2, .int coin), (3, .int 1), (4, .int (nI p)), (5, .int (s_wi A j1 p (nI j1))), (6, .int cost), (7, .int (nI p)), (8, .int (s_pr A p)), (9, .int (s_wi A j1 p (nI j1))), (10, .int 1)]) dX7_hire_153 (by decide) rfl ?_
                            refine ev_iload dX7_hire_155 rfl ?_
                            refine ev_if_eq (tgt := 165) dX7_hire_157 (by decide) (fun c => absurd c (by decide)) (fun _ => ?_)
                            refine ev_iload dX7_hire_160 rfl ?_
                            refine ev_goto (tgt := 167) dX7_hire_162 (by decide) ?_
                            refine ev_istore (lv' := [(0, .ref 65), (1, .int (nI j1)), (2, .int coin), (3, .int 1), (4, .int (nI p)), (5, .int (s_wi A j1 p (nI j1))), (6, .int (s_pr A p)), (7, .int (nI p)), (8, .int (s_pr A p)), (9, .int (s_wi A j1 p (nI j1))), (10, .int 1)]) dX7_hire_167 (by decide) rfl ?_
                            refine ev_iinc (lv' := [(0, .ref 65), (1, .int (nI j1)), (2, .int coin), (3, .int 1), (4, .int (nI p)), (5, .int (s_wi A j1 p (nI j1))), (6, .int (s_pr A p)), (7, .int (nI (p + 1))), (8, .int (s_pr A p)), (9, .int (s_wi A j1 p (nI j1))), (10, .int 1)]) (v := nI (p + 1)) dX7_hire_169 rfl (nI_1 _) (by decide) rfl ?_
                            refine ev_goto (tgt := 49) dX7_hire_172 (by decide) ?_
                            refine ev_keep (lv' := [(0, .ref 65), (1, .int (nI j1)), (2, .int coin), (3, .int 1), (4, .int (nI p)), (5, .int (s_wi A j1 p (nI j1))), (6, .int (s_pr A p)), (7, .int (nI (p + 1)))]) [0, 1, 2, 3, 4, 5, 6, 7] rfl ?_
                            exact ih (p + 1) (nI p) (s_wi A j1 p (nI j1)) (s_pr A p) σ28 (by omega) (by rw [s_hiY ⟨c26, Int32.not_lt.mp c27⟩ (Or.inr ⟨by rw [ho]; simp, by rw [← hm]; exact c30, by rw [← hc]; exact Int32.not_le.mp c31⟩)]; rfl) (by rw [s_hiY ⟨c26, Int32.not_lt.mp c27⟩ (Or.inr ⟨by rw [ho]; simp, by rw [← hm]; exact c30, by rw [← hc]; exact Int32.not_le.mp c31⟩)]) (by rw [s_hiY ⟨c26, Int32.not_lt.mp c27⟩ (Or.inr ⟨by rw [ho]; simp, by rw [← hm]; exact c30, by rw [← hc]; exact Int32.not_le.mp c31⟩)]) hI28 (fr_M.tr (fr_M.tr hF hF25) hF28) (by omega)
          exact lp _ 0 (-1) (s_now A j1) (-1) σ18 (Nat.zero_le _) rfl rfl rfl hI18 (fr_M.tr fr_M.rf hF18) (Nat.lt_succ_self _)
      · skip
        have h3r := fun q => h3 ((am_rgl (n := 2) (by decide)).mpr q)
        have hw0 := am_w1 h3r
        refine ev_if_ne (tgt := 33) dX7_hire_27 (by decide) (fun c => absurd (by decide) c) (fun _ => ?_)
        refine ev_bipush (v := (-7)) dX7_hire_30 (by decide) ?_
        refine ev_reti dX7_hire_32 rfl (Nat.zero_le _) (Nat.zero_le _) ?_
        refine ⟨?_, hI, fr_M.rf⟩
        simp [sp_hire, am_inN h1 (by omega), sN_n (show j1 < 2 ^ 31 by omega), hk, hw0]
    · skip
      have hk := am_inF (n := 1000) (by decide) (fun q => h2 ((am_rgl (n := 1000) (by decide)).mpr q))
      refine ev_if_eq (tgt := 30) dX7_hire_18 (by decide) (fun _ => ?_) (fun c => absurd (by decide) c)
      refine ev_bipush (v := (-7)) dX7_hire_30 (by decide) ?_
      refine ev_reti dX7_hire_32 rfl (Nat.zero_le _) (Nat.zero_le _) ?_
      refine ⟨?_, hI, fr_M.rf⟩
      simp [sp_hire, am_inN h1 (by omega), sN_n (show j1 < 2 ^ 31 by omega), hk]
  · skip
    refine ev_if_ne (tgt := 10) dX7_hire_4 (by decide) (fun c => absurd (by decide) c) (fun _ => ?_)
    refine ev_bipush (v := (-5)) dX7_hire_7 (by decide) ?_
    refine ev_reti dX7_hire_9 rfl (Nat.zero_le _) (Nat.zero_le _) ?_
    refine ⟨?_, hI, fr_M.rf⟩
    simp [sp_hire, am_inF (by omega) h1]

set_option maxHeartbeats 400000 in
set_option maxRecDepth 100000 in
theorem c_X7_close (G : am_G) (D : Nat) (A : am_S) (σ : am_M) (hA : wf_A A) (hI : iv_M A σ) (k w : Int32) : am_Mt G (D + 9) mX7_close [.ref 65, .int k, .int w] σ 0 0 (am_qM A (.int (sp_close A k w)) σ) := by
  have b7 := wf_np7 hA
  have b8 := wf_nq8 hA
  have b6 := wf_nt6 hA
  have b61 := wf_nt1 hA
  have b160 := wf_tp160 hA
  have brl := wf_rlt hA
  refine am_of moX7_close (Nat.le_of_ble_eq_true rfl) ?_
  show am_Ev G mX7_close (am_R (D + 9) 0 0) 0 0 (am_qM A (.int (sp_close A k w)) σ) 0 [(0, .ref 65), (1, .int k), (2, .int w)] [] σ 0 0
  have bq : 2 ^ s_nq A ≤ 2 ^ 8 := Nat.pow_le_pow_right (by decide) b8
  have bq0 := Nat.two_pow_pos (s_nq A)
  refine ev_iload_n dX7_close_0 rfl rfl ?_
  refine ev_iconst (v := 0) dX7_close_1 (by decide) ?_
  refine ev_bipush (v := 8) dX7_close_2 (by decide) ?_
  refine ev_callS (as := [.int k, .int 0, .int 8]) (st := []) dX7_close_4 mfX7_in lk_X7_90 (c_X7_in G (D + 8) σ k 0 8) rfl rfl (Nat.le_of_ble_eq_true rfl) (am_hR (by omega) (by decide)) ⟨Nat.le_refl _, Nat.le_refl _⟩ ?_
  rintro _ _ (⟨h1, rfl, rfl⟩ | ⟨h1, rfl, rfl⟩)
  · skip
    obtain ⟨j, hj, rfl⟩ := (am_rgl (n := 9) (by decide)).mp h1
    refine ev_if_eq (tgt := 19) dX7_close_7 (by decide) (fun c => absurd c (by decide)) (fun _ => ?_)
    refine ev_iload_n dX7_close_10 rfl rfl ?_
    refine ev_iconst (v := 0) dX7_close_11 (by decide) ?_
    refine ev_iconst (v := 1) dX7_close_12 (by decide) ?_
    refine ev_callS (as := [.int w, .int 0, .int 1]) (st := []) dX7_close_13 mfX7_in lk_X7_90 (c_X7_in G (D + 8) σ w 0 1) rfl rfl (Nat.le_of_ble_eq_true rfl) (am_hR (by omega) (by decide)) ⟨Nat.le_refl _, Nat.le_refl _⟩ ?_
    rintro _ _ (⟨h2, rfl, rfl⟩ | ⟨h2, rfl, rfl⟩)
    · skip
      rcases am_v1 h2 with rfl | rfl
      · skip
        refine ev_if_ne (tgt := 22) dX7_close_16 (by decide) (fun _ => ?_) (fun c => absurd c (by decide))
        refine ev_iconst (v := (-1)) dX7_close_22 (by decide) ?_
        refine ev_istore_n (lv' := [(0, .ref 65), (1, .int (nI j)), (2, .int 0), (3, .int (-1))]) dX7_close_23 rfl (by decide) rfl ?_
        refine ev_iconst (v := (-1)) dX7_close_24 (by decide) ?_
        refine ev_istore (lv' := [(0, .ref 65), (1, .int (nI j)), (2, .int 0), (3, .int (-1)), (4, .int (-1))]) dX7_close_25 (by decide) rfl ?_
        refine ev_iconst (v := 0) dX7_close_27 (by decide) ?_
        refine ev_istore (lv' := [(0, .ref 65), (1, .int (nI j)), (2, .int 0), (3, .int (-1)), (4, .int (-1)), (5, .int 0)]) dX7_close_28 (by decide) rfl ?_
        have lp : ∀ (f : Nat) (n : Nat) (best : Int32) (gap : Int32) (σ1 : am_M), (n ≤ 2 ^ s_nq A) → (best = s_bi (s_cl A j n)) → (gap = s_gp A (s_cl A j n)) → (iv_M A σ1) → (fr_M σ σ1) → 2 ^ s_nq A - n < f → am_Ev G mX7_close (am_R (D + 9) 0 0) 0 0 (am_qM A (.int (sp_close A (nI j) 0)) σ) 30 [(0, .ref 65), (1, .int (nI j)), (2, .int 0), (3, .int best), (4, .int gap), (5, .int (nI n))] [] σ1 0 0 := by
          intro f
          induction f with
          | zero => intro n best gap σ1 hn hb hg hI hF hf; exact absurd hf (Nat.not_lt_zero _)
          | succ f ih =>
            intro n best gap σ1 hn hb hg hI hF hf
            refine ev_iload dX7_close_30 rfl ?_
            refine ev_aload_n dX7_close_32 rfl rfl ?_
            refine ev_callV (as := []) (st := [.int (nI n)]) dX7_close_33 mfX7_all lk_X7_211 (ly_k hI.ly 65 rfl) (by decide) rfl (c_X7_all G (D + 8) A σ1 hA hI ) rfl rfl (Nat.le_of_ble_eq_true rfl) (am_hR (by omega) (by decide)) ⟨Nat.le_refl _, Nat.le_refl _⟩ ?_
            rintro _ _ ⟨rfl, rfl⟩
            refine ev_icmp_gt (tgt := 117) dX7_close_36 (by decide) (fun c3 => ?_) (fun c3 => ?_)
            · skip
              have c3n : (2 ^ s_nq A - 1) < n := (nI_ltI (a := (2 ^ s_nq A - 1)) (b := n) (by omega) (by omega)).mp c3
              refine ev_iload_n dX7_close_117 rfl rfl ?_
              refine ev_if_ne (tgt := 125) dX7_close_118 (by decide) (fun c => absurd (by decide) c) (fun _ => ?_)
              refine ev_iload_n dX7_close_121 rfl rfl ?_
              refine ev_goto (tgt := 127) dX7_close_122 (by decide) ?_
              refine ev_reti dX7_close_127 rfl (Nat.zero_le _) (Nat.zero_le _) ?_
              have e : n = 2 ^ s_nq A := by omega
              subst e
              refine ⟨?_, hI, hF⟩
              rw [hb]
              have er : s_cr A j = s_cl A j (2 ^ s_nq A) := rfl
              unfold sp_close
              rw [am_inN hj (by omega), sN_n (show j < 2 ^ 31 by omega), er]
              rfl
            · skip
              have c3n : ¬ (2 ^ s_nq A - 1) < n := fun zz => c3 ((nI_ltI (a := (2 ^ s_nq A - 1)) (b := n) (by omega) (by omega)).mpr zz)
              cases ho : s_cl A j n with
              | none =>
                refine ev_iload dX7_close_39 rfl ?_
                refine ev_callS (as := [.int (nI n)]) (st := []) dX7_close_41 mfX7_ones lk_X7_238 (c_X7_ones G (D + 8) σ1 n (by omega)) rfl rfl (Nat.le_of_ble_eq_true rfl) (am_hR (by omega) (by decide)) ⟨Nat.le_refl _, Nat.le_refl _⟩ ?_
                rintro _ _ ⟨rfl, rfl⟩
                have hon3 := s_on12 n
                refine ev_iload_n dX7_close_44 rfl rfl ?_
                refine ev_icmp_ne (tgt := 57) dX7_close_45 (by decide) (fun c4 => ?_) (fun c4 => ?_)
                · skip
                  have c4n : ¬ (s_on n) = j := fun zz => c4 ((nI_eq (a := (s_on n)) (b := j) (by omega) (by omega)).mpr zz)
                  refine ev_iconst (v := (-1)) dX7_close_57 (by decide) ?_
                  refine ev_istore (lv' := [(0, .ref 65), (1, .int (nI j)), (2, .int 0), (3, .int best), (4, .int gap), (5, .int (nI n)), (6, .int (-1))]) dX7_close_58 (by decide) rfl ?_
                  refine ev_iload dX7_close_60 rfl ?_
                  refine ev_iconst (v := (-1)) dX7_close_62 (by decide) ?_
                  refine ev_icmp_eq (tgt := 82) dX7_close_63 (by decide) (fun _ => ?_) (fun c => absurd (by decide) c)
                  refine ev_iconst (v := 0) dX7_close_82 (by decide) ?_
                  refine ev_istore (lv' := [(0, .ref 65), (1, .int (nI j)), (2, .int 0), (3, .int best), (4, .int gap), (5, .int (nI n)), (6, .int (-1)), (7, .int 0)]) dX7_close_83 (by decide) rfl ?_
                  refine ev_iload dX7_close_85 rfl ?_
                  refine ev_if_eq (tgt := 95) dX7_close_87 (by decide) (fun _ => ?_) (fun c => absurd (by decide) c)
                  refine ev_iload_n dX7_close_95 rfl rfl ?_
                  refine ev_istore_n (lv' := [(0, .ref 65), (1, .int (nI j)), (2, .int 0), (3, .int best), (4, .int gap), (5, .int (nI n)), (6, .int (-1)), (7, .int 0)]) dX7_close_96 rfl (by decide) rfl ?_
                  refine ev_iload dX7_close_97 rfl ?_
                  refine ev_if_eq (tgt := 107) dX7_close_99 (by decide) (fun _ => ?_) (fun c => absurd (by decide) c)
                  refine ev_iload dX7_close_107 rfl ?_
                  refine ev_istore (lv' := [(0, .ref 65), (1, .int (nI j)), (2, .int 0), (3, .int best), (4, .int gap), (5, .int (nI n)), (6, .int (-1)), (7, .int 0)]) dX7_close_109 (by decide) rfl ?_
                  refine ev_iinc (lv' := [(0, .ref 65), (1, .int (nI j)), (2, .int 0), (3, .int best), (4, .int gap), (5, .int (nI (n + 1))), (6, .int (-1)), (7, .int 0)]) (v := nI (n + 1)) dX7_close_111 rfl (nI_1 _) (by decide) rfl ?_
                  refine ev_goto (tgt := 30) dX7_close_114 (by decide) ?_
                  refine ev_keep (lv' := [(0, .ref 65), (1, .int (nI j)), (2, .int 0), (3, .int best), (4, .int gap), (5, .int (nI (n + 1)))]) [0, 1, 2, 3, 4, 5] rfl ?_
                  exact ih (n + 1) best gap σ1 (by omega) (by rw [s_clF c4n]; exact hb) (by rw [s_clF c4n]; exact hg) hI hF (by omega)
                · skip
                  have c4n : (s_on n) = j := (nI_eq (a := (s_on n)) (b := j) (by omega) (by omega)).mp c4
                  refine ev_aload_n dX7_close_48 rfl rfl ?_
                  refine ev_iload dX7_close_49 rfl ?_
                  refine ev_callV (as := [.int (nI n)]) (st := []) dX7_close_51 mfX7_apart lk_X7_229 (ly_k hI.ly 65 rfl) (by decide) rfl (c_X7_apart G D A σ1 hA hI n (by omega)) rfl rfl (Nat.le_of_ble_eq_true rfl) (am_hR (by omega) (by decide)) ⟨Nat.le_refl _, Nat.le_refl _⟩ ?_
                  rintro _ σ5 ⟨rfl, hI5, hF5⟩
                  refine ev_goto (tgt := 58) dX7_close_54 (by decide) ?_
                  refine ev_istore (lv' := [(0, .ref 65), (1, .int (nI j)), (2, .int 0), (3, .int best), (4, .int gap), (5, .int (nI n)), (6, .int (s_ap A (fun q => Nat.testBit n q)))]) dX7_close_58 (by decide) rfl ?_
                  refine ev_iload dX7_close_60 rfl ?_
                  refine ev_iconst (v := (-1)) dX7_close_62 (by decide) ?_
                  refine ev_icmp_eq (tgt := 82) dX7_close_63 (by decide) (fun c => absurd c (s_ap_n b8 _)) (fun _ => ?_)
                  refine ev_iload_n dX7_close_66 rfl rfl ?_
                  refine ev_iconst (v := (-1)) dX7_close_67 (by decide) ?_
                  refine ev_icmp_eq (tgt := 78) dX7_close_68 (by decide) (fun _ => ?_) (fun c => absurd ((by rw [hb, ho]; rfl)) c)
                  refine ev_iconst (v := 1) dX7_close_78 (by decide) ?_
                  refine ev_goto (tgt := 83) dX7_close_79 (by decide) ?_
                  refine ev_istore (lv' := [(0, .ref 65), (1, .int (nI j)), (2, .int 0), (3, .int best), (4, .int gap), (5, .int (nI n)), (6, .int (s_ap A (fun q => Nat.testBit n q))), (7, .int 1)]) dX7_close_83 (by decide) rfl ?_
                  refine ev_iload dX7_close_85 rfl ?_
                  refine ev_if_eq (tgt := 95) dX7_close_87 (by decide) (fun c => absurd c (by decide)) (fun _ => ?_)
                  refine ev_iload dX7_close_90 rfl ?_
                  refine ev_goto (tgt := 96) dX7_close_92 (by decide) ?_
                  refine ev_istore_n (lv' := [(0, .ref 65), (1, .int (nI j)), (2, .int 0), (3, .int (nI n)), (4, .int gap), (5, .int (nI n)), (6, .int (s_ap A (fun q => Nat.testBit n q))), (7, .int 1)]) dX7_close_96 rfl (by decide) rfl ?_
                  refine ev_iload dX7_close_97 rfl ?_
                  refine ev_if_eq (tgt := 107) dX7_close_99 (by decide) (fun c => absurd c (by decide)) (fun _ => ?_)
                  refine ev_iload dX7_close_102 rfl ?_
                  refine ev_goto (tgt := 109) dX7_close_104 (by decide) ?_
                  refine ev_istore (lv' := [(0, .ref 65), (1, .int (nI j)), (2, .int 0), (3, .int (nI n)), (4, .int (s_ap A (fun q => Nat.testBit n q))), (5, .int (nI n)), (6, .int (s_ap A (fun q => Nat.testBit n q))), (7, .int 1)]) dX7_close_109 (by decide) rfl ?_
                  refine ev_iinc (lv' := [(0, .ref 65), (1, .int (nI j)), (2, .int 0), (3, .int (nI n)), (4, .int (s_ap A (fun q => Nat.testBit n q))), (5, .int (nI (n + 1))), (6, .int (s_ap A (fun q => Nat.testBit n q))), (7, .int 1)]) (v := nI (n + 1)) dX7_close_111 rfl (nI_1 _) (by decide) rfl ?_
                  refine ev_goto (tgt := 30) dX7_close_114 (by decide) ?_
                  refine ev_keep (lv' := [(0, .ref 65), (1, .int (nI j)), (2, .int 0), (3, .int (nI n)), (4, .int (s_ap A (fun q => Nat.testBit n q))), (5, .int (nI (n + 1)))]) [0, 1, 2, 3, 4, 5] rfl ?_
                  exact ih (n + 1) (nI n) (s_ap A (fun q => Nat.testBit n q)) σ5 (by omega) (by rw [s_clN c4n ho]; rfl) (by rw [s_clN c4n ho]; rfl) hI5 (fr_M.tr hF hF5) (by omega)
              | some b =>
                have hbl := s_cllt ho
                refine ev_iload dX7_close_39 rfl ?_
                refine ev_callS (as := [.int (nI n)]) (st := []) dX7_close_41 mfX7_ones lk_X7_238 (c_X7_ones G (D + 8) σ1 n (by omega)) rfl rfl (Nat.le_of_ble_eq_true rfl) (am_hR (by omega) (by decide)) ⟨Nat.le_refl _, Nat.le_refl _⟩ ?_
                rintro _ _ ⟨rfl, rfl⟩
                have hon5 := s_on12 n
                refine ev_iload_n dX7_close_44 rfl rfl ?_
                refine ev_icmp_ne (tgt := 57) dX7_close_45 (by decide) (fun c6 => ?_) (fun c6 => ?_)
                · skip
                  have c6n : ¬ (s_on n) = j := fun zz => c6 ((nI_eq (a := (s_on n)) (b := j) (by omega) (by omega)).mpr zz)
                  refine ev_iconst (v := (-1)) dX7_close_57 (by decide) ?_
                  refine ev_istore (lv' := [(0, .ref 65), (1, .int (nI j)), (2, .int 0), (3, .int best), (4, .int gap), (5, .int (nI n)), (6, .int (-1))]) dX7_close_58 (by decide) rfl ?_
                  refine ev_iload dX7_close_60 rfl ?_
                  refine ev_iconst (v := (-1)) dX7_close_62 (by decide) ?_
                  refine ev_icmp_eq (tgt := 82) dX7_close_63 (by decide) (fun _ => ?_) (fun c => absurd (by decide) c)
                  refine ev_iconst (v := 0) dX7_close_82 (by decide) ?_
                  refine ev_istore (lv' := [(0, .ref 65), (1, .int (nI j)), (2, .int 0), (3, .int best), (4, .int gap), (5, .int (nI n)), (6, .int (-1)), (7, .int 0)]) dX7_close_83 (by decide) rfl ?_
                  refine ev_iload dX7_close_85 rfl ?_
                  refine ev_if_eq (tgt := 95) dX7_close_87 (by decide) (fun _ => ?_) (fun c => absurd (by decide) c)
                  refine ev_iload_n dX7_close_95 rfl rfl ?_
                  refine ev_istore_n (lv' := [(0, .ref 65), (1, .int (nI j)), (2, .int 0), (3, .int best), (4, .int gap), (5, .int (nI n)), (6, .int (-1)), (7, .int 0)]) dX7_close_96 rfl (by decide) rfl ?_
                  refine ev_iload dX7_close_97 rfl ?_
                  refine ev_if_eq (tgt := 107) dX7_close_99 (by decide) (fun _ => ?_) (fun c => absurd (by decide) c)
                  refine ev_iload dX7_close_107 rfl ?_
                  refine ev_istore (lv' := [(0, .ref 65), (1, .int (nI j)), (2, .int 0), (3, .int best), (4, .int gap), (5, .int (nI n)), (6, .int (-1)), (7, .int 0)]) dX7_close_109 (by decide) rfl ?_
                  refine ev_iinc (lv' := [(0, .ref 65), (1, .int (nI j)), (2, .int 0), (3, .int best), (4, .int gap), (5, .int (nI (n + 1))), (6, .int (-1)), (7, .int 0)]) (v := nI (n + 1)) dX7_close_111 rfl (nI_1 _) (by decide) rfl ?_
                  refine ev_goto (tgt := 30) dX7_close_114 (by decide) ?_
                  refine ev_keep (lv' := [(0, .ref 65), (1, .int (nI j)), (2, .int 0), (3, .int best), (4, .int gap), (5, .int (nI (n + 1)))]) [0, 1, 2, 3, 4, 5] rfl ?_
                  exact ih (n + 1) best gap σ1 (by omega) (by rw [s_clF c6n]; exact hb) (by rw [s_clF c6n]; exact hg) hI hF (by omega)
                · skip
                  have c6n : (s_on n) = j := (nI_eq (a := (s_on n)) (b := j) (by omega) (by omega)).mp c6
                  refine ev_aload_n dX7_close_48 rfl rfl ?_
                  refine ev_iload dX7_close_49 rfl ?_
                  refine ev_callV (as := [.int (nI n)]) (st := []) dX7_close_51 mfX7_apart lk_X7_229 (ly_k hI.ly 65 rfl) (by decide) rfl (c_X7_apart G D A σ1 hA hI n (by omega)) rfl rfl (Nat.le_of_ble_eq_true rfl) (am_hR (by omega) (by decide)) ⟨Nat.le_refl _, Nat.le_refl _⟩ ?_
                  rintro _ σ7 ⟨rfl, hI7, hF7⟩
                  refine ev_goto (tgt := 58) dX7_close_54 (by decide) ?_
                  refine ev_istore (lv' := [(0, .ref 65), (1, .int (nI j)), (2, .int 0), (3, .int best), (4, .int gap), (5, .int (nI n)), (6, .int (s_ap A (fun q => Nat.testBit n q)))]) dX7_close_58 (by decide) rfl ?_
                  refine ev_iload dX7_close_60 rfl ?_
                  refine ev_iconst (v := (-1)) dX7_close_62 (by decide) ?_
                  refine ev_icmp_eq (tgt := 82) dX7_close_63 (by decide) (fun c => absurd c (s_ap_n b8 _)) (fun _ => ?_)
                  refine ev_iload_n dX7_close_66 rfl rfl ?_
                  refine ev_iconst (v := (-1)) dX7_close_67 (by decide) ?_
                  refine ev_icmp_eq (tgt := 78) dX7_close_68 (by decide) (fun c => absurd c ((by rw [hb, ho]; exact s_bi_n (by omega)))) (fun _ => ?_)
                  refine ev_iload dX7_close_71 rfl ?_
                  refine ev_iload dX7_close_73 rfl ?_
                  refine ev_icmp_ge (tgt := 82) dX7_close_75 (by decide) (fun c8 => ?_) (fun c8 => ?_)
                  · skip
                    refine ev_iconst (v := 0) dX7_close_82 (by decide) ?_
                    refine ev_istore (lv' := [(0, .ref 65), (1, .int (nI j)), (2, .int 0), (3, .int best), (4, .int gap), (5, .int (nI n)), (6, .int (s_ap A (fun q => Nat.testBit n q))), (7, .int 0)]) dX7_close_83 (by decide) rfl ?_
                    refine ev_iload dX7_close_85 rfl ?_
                    refine ev_if_eq (tgt := 95) dX7_close_87 (by decide) (fun _ => ?_) (fun c => absurd (by decide) c)
                    refine ev_iload_n dX7_close_95 rfl rfl ?_
                    refine ev_istore_n (lv' := [(0, .ref 65), (1, .int (nI j)), (2, .int 0), (3, .int best), (4, .int gap), (5, .int (nI n)), (6, .int (s_ap A (fun q => Nat.testBit n q))), (7, .int 0)]) dX7_close_96 rfl (by decide) rfl ?_
                    refine ev_iload dX7_close_97 rfl ?_
                    refine ev_if_eq (tgt := 107) dX7_close_99 (by decide) (fun _ => ?_) (fun c => absurd (by decide) c)
                    refine ev_iload dX7_close_107 rfl ?_
                    refine ev_istore (lv' := [(0, .ref 65), (1, .int (nI j)), (2, .int 0), (3, .int best), (4, .int gap), (5, .int (nI n)), (6, .int (s_ap A (fun q => Nat.testBit n q))), (7, .int 0)]) dX7_close_109 (by decide) rfl ?_
                    refine ev_iinc (lv' := [(0, .ref 65), (1, .int (nI j)), (2, .int 0), (3, .int best), (4, .int gap), (5, .int (nI (n + 1))), (6, .int (s_ap A (fun q => Nat.testBit n q))), (7, .int 0)]) (v := nI (n + 1)) dX7_close_111 rfl (nI_1 _) (by decide) rfl ?_
                    refine ev_goto (tgt := 30) dX7_close_114 (by decide) ?_
                    refine ev_keep (lv' := [(0, .ref 65), (1, .int (nI j)), (2, .int 0), (3, .int best), (4, .int gap), (5, .int (nI (n + 1)))]) [0, 1, 2, 3, 4, 5] rfl ?_
                    exact ih (n + 1) best gap σ7 (by omega) (by rw [s_clK c6n ho (Int32.not_lt.mpr (by rw [hg, ho] at c8; exact c8)), ← ho]; exact hb) (by rw [s_clK c6n ho (Int32.not_lt.mpr (by rw [hg, ho] at c8; exact c8)), ← ho]; exact hg) hI7 (fr_M.tr hF hF7) (by omega)
                  · skip
                    refine ev_iconst (v := 1) dX7_close_78 (by decide) ?_
                    refine ev_goto (tgt := 83) dX7_close_79 (by decide) ?_
                    refine ev_istore (lv' := [(0, .ref 65), (1, .int (nI j)), (2, .int 0), (3, .int best), (4, .int gap), (5, .int (nI n)), (6, .int (s_ap A (fun q => Nat.testBit n q))), (7, .int 1)]) dX7_close_83 (by decide) rfl ?_
                    refine ev_iload dX7_close_85 rfl ?_
                    refine ev_if_eq (tgt := 95) dX7_close_87 (by decide) (fun c => absurd c (by decide)) (fun _ => ?_)
                    refine ev_iload dX7_close_90 rfl ?_
                    refine ev_goto (tgt := 96) dX7_close_92 (by decide) ?_
                    refine ev_istore_n (lv' := [(0, .ref 65), (1, .int (nI j)), (2, .int 0), (3, .int (nI n)), (4, .int gap), (5, .int (nI n)), (6, .int (s_ap A (fun q => Nat.testBit n q))), (7, .int 1)]) dX7_close_96 rfl (by decide) rfl ?_
                    refine ev_iload dX7_close_97 rfl ?_
                    refine ev_if_eq (tgt := 107) dX7_close_99 (by decide) (fun c => absurd c (by decide)) (fun _ => ?_)
                    refine ev_iload dX7_close_102 rfl ?_
                    refine ev_goto (tgt := 109) dX7_close_104 (by decide) ?_
                    refine ev_istore (lv' := [(0, .ref 65), (1, .int (nI j)), (2, .int 0), (3, .int (nI n)), (4, .int (s_ap A (fun q => Nat.testBit n q))), (5, .int (nI n)), (6, .int (s_ap A (fun q => Nat.testBit n q))), (7, .int 1)]) dX7_close_109 (by decide) rfl ?_
                    refine ev_iinc (lv' := [(0, .ref 65), (1, .int (nI j)), (2, .int 0), (3, .int (nI n)), (4, .int (s_ap A (fun q => Nat.testBit n q))), (5, .int (nI (n + 1))), (6, .int (s_ap A (fun q => Nat.testBit n q))), (7, .int 1)]) (v := nI (n + 1)) dX7_close_111 rfl (nI_1 _) (by decide) rfl ?_
                    refine ev_goto (tgt := 30) dX7_close_114 (by decide) ?_
                    refine ev_keep (lv' := [(0, .ref 65), (1, .int (nI j)), (2, .int 0), (3, .int (nI n)), (4, .int (s_ap A (fun q => Nat.testBit n q))), (5, .int (nI (n + 1)))]) [0, 1, 2, 3, 4, 5] rfl ?_
                    exact ih (n + 1) (nI n) (s_ap A (fun q => Nat.testBit n q)) σ7 (by omega) (by rw [s_clY c6n ho (Int32.not_le.mp (by rw [hg, ho] at c8; exact c8))]; rfl) (by rw [s_clY c6n ho (Int32.not_le.mp (by rw [hg, ho] at c8; exact c8))]; rfl) hI7 (fr_M.tr hF hF7) (by omega)
        exact lp _ 0 (-1) (-1) σ (Nat.zero_le _) rfl rfl hI fr_M.rf (Nat.lt_succ_self _)
      · skip
        refine ev_if_ne (tgt := 22) dX7_close_16 (by decide) (fun _ => ?_) (fun c => absurd c (by decide))
        refine ev_iconst (v := (-1)) dX7_close_22 (by decide) ?_
        refine ev_istore_n (lv' := [(0, .ref 65), (1, .int (nI j)), (2, .int 1), (3, .int (-1))]) dX7_close_23 rfl (by decide) rfl ?_
        refine ev_iconst (v := (-1)) dX7_close_24 (by decide) ?_
        refine ev_istore (lv' := [(0, .ref 65), (1, .int (nI j)), (2, .int 1), (3, .int (-1)), (4, .int (-1))]) dX7_close_25 (by decide) rfl ?_
        refine ev_iconst (v := 0) dX7_close_27 (by decide) ?_
        refine ev_istore (lv' := [(0, .ref 65), (1, .int (nI j)), (2, .int 1), (3, .int (-1)), (4, .int (-1)), (5, .int 0)]) dX7_close_28 (by decide) rfl ?_
        have lp : ∀ (f : Nat) (n : Nat) (best : Int32) (gap : Int32) (σ1 : am_M), (n ≤ 2 ^ s_nq A) → (best = s_bi (s_cl A j n)) → (gap = s_gp A (s_cl A j n)) → (iv_M A σ1) → (fr_M σ σ1) → 2 ^ s_nq A - n < f → am_Ev G mX7_close (am_R (D + 9) 0 0) 0 0 (am_qM A (.int (sp_close A (nI j) 1)) σ) 30 [(0, .ref 65), (1, .int (nI j)), (2, .int 1), (3, .int best), (4, .int gap), (5, .int (nI n))] [] σ1 0 0 := by
          intro f
          induction f with
          | zero => intro n best gap σ1 hn hb hg hI hF hf; exact absurd hf (Nat.not_lt_zero _)
          | succ f ih =>
            intro n best gap σ1 hn hb hg hI hF hf
            refine ev_iload dX7_close_30 rfl ?_
            refine ev_aload_n dX7_close_32 rfl rfl ?_
            refine ev_callV (as := []) (st := [.int (nI n)]) dX7_close_33 mfX7_all lk_X7_211 (ly_k hI.ly 65 rfl) (by decide) rfl (c_X7_all G (D + 8) A σ1 hA hI ) rfl rfl (Nat.le_of_ble_eq_true rfl) (am_hR (by omega) (by decide)) ⟨Nat.le_refl _, Nat.le_refl _⟩ ?_
            rintro _ _ ⟨rfl, rfl⟩
            refine ev_icmp_gt (tgt := 117) dX7_close_36 (by decide) (fun c9 => ?_) (fun c9 => ?_)
            · skip
              have c9n : (2 ^ s_nq A - 1) < n := (nI_ltI (a := (2 ^ s_nq A - 1)) (b := n) (by omega) (by omega)).mp c9
              refine ev_iload_n dX7_close_117 rfl rfl ?_
              refine ev_if_ne (tgt := 125) dX7_close_118 (by decide) (fun _ => ?_) (fun c => absurd c (by decide))
              refine ev_iload dX7_close_125 rfl ?_
              refine ev_reti dX7_close_127 rfl (Nat.zero_le _) (Nat.zero_le _) ?_
              have e : n = 2 ^ s_nq A := by omega
              subst e
              refine ⟨?_, hI, hF⟩
              rw [hg]
              have er : s_cr A j = s_cl A j (2 ^ s_nq A) := rfl
              unfold sp_close
              rw [am_inN hj (by omega), sN_n (show j < 2 ^ 31 by omega), er]
              cases s_cl A j (2 ^ s_nq A) <;> rfl
            · skip
              have c9n : ¬ (2 ^ s_nq A - 1) < n := fun zz => c9 ((nI_ltI (a := (2 ^ s_nq A - 1)) (b := n) (by omega) (by omega)).mpr zz)
              cases ho : s_cl A j n with
              | none =>
                refine ev_iload dX7_close_39 rfl ?_
                refine ev_callS (as := [.int (nI n)]) (st := []) dX7_close_41 mfX7_ones lk_X7_238 (c_X7_ones G (D + 8) σ1 n (by omega)) rfl rfl (Nat.le_of_ble_eq_true rfl) (am_hR (by omega) (by decide)) ⟨Nat.le_refl _, Nat.le_refl _⟩ ?_
                rintro _ _ ⟨rfl, rfl⟩
                have hon9 := s_on12 n
                refine ev_iload_n dX7_close_44 rfl rfl ?_
                refine ev_icmp_ne (tgt := 57) dX7_close_45 (by decide) (fun c10 => ?_) (fun c10 => ?_)
                · skip
                  have c10n : ¬ (s_on n) = j := fun zz => c10 ((nI_eq (a := (s_on n)) (b := j) (by omega) (by omega)).mpr zz)
                  refine ev_iconst (v := (-1)) dX7_close_57 (by decide) ?_
                  refine ev_istore (lv' := [(0, .ref 65), (1, .int (nI j)), (2, .int 1), (3, .int best), (4, .int gap), (5, .int (nI n)), (6, .int (-1))]) dX7_close_58 (by decide) rfl ?_
                  refine ev_iload dX7_close_60 rfl ?_
                  refine ev_iconst (v := (-1)) dX7_close_62 (by decide) ?_
                  refine ev_icmp_eq (tgt := 82) dX7_close_63 (by decide) (fun _ => ?_) (fun c => absurd (by decide) c)
                  refine ev_iconst (v := 0) dX7_close_82 (by decide) ?_
                  refine ev_istore (lv' := [(0, .ref 65), (1, .int (nI j)), (2, .int 1), (3, .int best), (4, .int gap), (5, .int (nI n)), (6, .int (-1)), (7, .int 0)]) dX7_close_83 (by decide) rfl ?_
                  refine ev_iload dX7_close_85 rfl ?_
                  refine ev_if_eq (tgt := 95) dX7_close_87 (by decide) (fun _ => ?_) (fun c => absurd (by decide) c)
                  refine ev_iload_n dX7_close_95 rfl rfl ?_
                  refine ev_istore_n (lv' := [(0, .ref 65), (1, .int (nI j)), (2, .int 1), (3, .int best), (4, .int gap), (5, .int (nI n)), (6, .int (-1)), (7, .int 0)]) dX7_close_96 rfl (by decide) rfl ?_
                  refine ev_iload dX7_close_97 rfl ?_
                  refine ev_if_eq (tgt := 107) dX7_close_99 (by decide) (fun _ => ?_) (fun c => absurd (by decide) c)
                  refine ev_iload dX7_close_107 rfl ?_
                  refine ev_istore (lv' := [(0, .ref 65), (1, .int (nI j)), (2, .int 1), (3, .int best), (4, .int gap), (5, .int (nI n)), (6, .int (-1)), (7, .int 0)]) dX7_close_109 (by decide) rfl ?_
                  refine ev_iinc (lv' := [(0, .ref 65), (1, .int (nI j)), (2, .int 1), (3, .int best), (4, .int gap), (5, .int (nI (n + 1))), (6, .int (-1)), (7, .int 0)]) (v := nI (n + 1)) dX7_close_111 rfl (nI_1 _) (by decide) rfl ?_
                  refine ev_goto (tgt := 30) dX7_close_114 (by decide) ?_
                  refine ev_keep (lv' := [(0, .ref 65), (1, .int (nI j)), (2, .int 1), (3, .int best), (4, .int gap), (5, .int (nI (n + 1)))]) [0, 1, 2, 3, 4, 5] rfl ?_
                  exact ih (n + 1) best gap σ1 (by omega) (by rw [s_clF c10n]; exact hb) (by rw [s_clF c10n]; exact hg) hI hF (by omega)
                · skip
                  have c10n : (s_on n) = j := (nI_eq (a := (s_on n)) (b := j) (by omega) (by omega)).mp c10
                  refine ev_aload_n dX7_close_48 rfl rfl ?_
                  refine ev_iload dX7_close_49 rfl ?_
                  refine ev_callV (as := [.int (nI n)]) (st := []) dX7_close_51 mfX7_apart lk_X7_229 (ly_k hI.ly 65 rfl) (by decide) rfl (c_X7_apart G D A σ1 hA hI n (by omega)) rfl rfl (Nat.le_of_ble_eq_true rfl) (am_hR (by omega) (by decide)) ⟨Nat.le_refl _, Nat.le_refl _⟩ ?_
                  rintro _ σ11 ⟨rfl, hI11, hF11⟩
                  refine ev_goto (tgt := 58) dX7_close_54 (by decide) ?_
                  refine ev_istore (lv' := [(0, .ref 65), (1, .int (nI j)), (2, .int 1), (3, .int best), (4, .int gap), (5, .int (nI n)), (6, .int (s_ap A (fun q => Nat.testBit n q)))]) dX7_close_58 (by decide) rfl ?_
                  refine ev_iload dX7_close_60 rfl ?_
                  refine ev_iconst (v := (-1)) dX7_close_62 (by decide) ?_
                  refine ev_icmp_eq (tgt := 82) dX7_close_63 (by decide) (fun c => absurd c (s_ap_n b8 _)) (fun _ => ?_)
                  refine ev_iload_n dX7_close_66 rfl rfl ?_
                  refine ev_iconst (v := (-1)) dX7_close_67 (by decide) ?_
                  refine ev_icmp_eq (tgt := 78) dX7_close_68 (by decide) (fun _ => ?_) (fun c => absurd ((by rw [hb, ho]; rfl)) c)
                  refine ev_iconst (v := 1) dX7_close_78 (by decide) ?_
                  refine ev_goto (tgt := 83) dX7_close_79 (by decide) ?_
                  refine ev_istore (lv' := [(0, .ref 65), (1, .int (nI j)), (2, .int 1), (3, .int best), (4, .int gap), (5, .int (nI n)), (6, .int (s_ap A (fun q => Nat.testBit n q))), (7, .int 1)]) dX7_close_83 (by decide) rfl ?_
                  refine ev_iload dX7_close_85 rfl ?_
                  refine ev_if_eq (tgt := 95) dX7_close_87 (by decide) (fun c => absurd c (by decide)) (fun _ => ?_)
                  refine ev_iload dX7_close_90 rfl ?_
                  refine ev_goto (tgt := 96) dX7_close_92 (by decide) ?_
                  refine ev_istore_n (lv' := [(0, .ref 65), (1, .int (nI j)), (2, .int 1), (3, .int (nI n)), (4, .int gap), (5, .int (nI n)), (6, .int (s_ap A (fun q => Nat.testBit n q))), (7, .int 1)]) dX7_close_96 rfl (by decide) rfl ?_
                  refine ev_iload dX7_close_97 rfl ?_
                  refine ev_if_eq (tgt := 107) dX7_close_99 (by decide) (fun c => absurd c (by decide)) (fun _ => ?_)
                  refine ev_iload dX7_close_102 rfl ?_
                  refine ev_goto (tgt := 109) dX7_close_104 (by decide) ?_
                  refine ev_istore (lv' := [(0, .ref 65), (1, .int (nI j)), (2, .int 1), (3, .int (nI n)), (4, .int (s_ap A (fun q => Nat.testBit n q))), (5, .int (nI n)), (6, .int (s_ap A (fun q => Nat.testBit n q))), (7, .int 1)]) dX7_close_109 (by decide) rfl ?_
                  refine ev_iinc (lv' := [(0, .ref 65), (1, .int (nI j)), (2, .int 1), (3, .int (nI n)), (4, .int (s_ap A (fun q => Nat.testBit n q))), (5, .int (nI (n + 1))), (6, .int (s_ap A (fun q => Nat.testBit n q))), (7, .int 1)]) (v := nI (n + 1)) dX7_close_111 rfl (nI_1 _) (by decide) rfl ?_
                  refine ev_goto (tgt := 30) dX7_close_114 (by decide) ?_
                  refine ev_keep (lv' := [(0, .ref 65), (1, .int (nI j)), (2, .int 1), (3, .int (nI n)), (4, .int (s_ap A (fun q => Nat.testBit n q))), (5, .int (nI (n + 1)))]) [0, 1, 2, 3, 4, 5] rfl ?_
                  exact ih (n + 1) (nI n) (s_ap A (fun q => Nat.testBit n q)) σ11 (by omega) (by rw [s_clN c10n ho]; rfl) (by rw [s_clN c10n ho]; rfl) hI11 (fr_M.tr hF hF11) (by omega)
              | some b =>
                have hbl := s_cllt ho
                refine ev_iload dX7_close_39 rfl ?_
                refine ev_callS (as := [.int (nI n)]) (st := []) dX7_close_41 mfX7_ones lk_X7_238 (c_X7_ones G (D + 8) σ1 n (by omega)) rfl rfl (Nat.le_of_ble_eq_true rfl) (am_hR (by omega) (by decide)) ⟨Nat.le_refl _, Nat.le_refl _⟩ ?_
                rintro _ _ ⟨rfl, rfl⟩
                have hon11 := s_on12 n
                refine ev_iload_n dX7_close_44 rfl rfl ?_
                refine ev_icmp_ne (tgt := 57) dX7_close_45 (by decide) (fun c12 => ?_) (fun c12 => ?_)
                · skip
                  have c12n : ¬ (s_on n) = j := fun zz => c12 ((nI_eq (a := (s_on n)) (b := j) (by omega) (by omega)).mpr zz)
                  refine ev_iconst (v := (-1)) dX7_close_57 (by decide) ?_
                  refine ev_istore (lv' := [(0, .ref 65), (1, .int (nI j)), (2, .int 1), (3, .int best), (4, .int gap), (5, .int (nI n)), (6, .int (-1))]) dX7_close_58 (by decide) rfl ?_
                  refine ev_iload dX7_close_60 rfl ?_
                  refine ev_iconst (v := (-1)) dX7_close_62 (by decide) ?_
                  refine ev_icmp_eq (tgt := 82) dX7_close_63 (by decide) (fun _ => ?_) (fun c => absurd (by decide) c)
                  refine ev_iconst (v := 0) dX7_close_82 (by decide) ?_
                  refine ev_istore (lv' := [(0, .ref 65), (1, .int (nI j)), (2, .int 1), (3, .int best), (4, .int gap), (5, .int (nI n)), (6, .int (-1)), (7, .int 0)]) dX7_close_83 (by decide) rfl ?_
                  refine ev_iload dX7_close_85 rfl ?_
                  refine ev_if_eq (tgt := 95) dX7_close_87 (by decide) (fun _ => ?_) (fun c => absurd (by decide) c)
                  refine ev_iload_n dX7_close_95 rfl rfl ?_
                  refine ev_istore_n (lv' := [(0, .ref 65), (1, .int (nI j)), (2, .int 1), (3, .int best), (4, .int gap), (5, .int (nI n)), (6, .int (-1)), (7, .int 0)]) dX7_close_96 rfl (by decide) rfl ?_
                  refine ev_iload dX7_close_97 rfl ?_
                  refine ev_if_eq (tgt := 107) dX7_close_99 (by decide) (fun _ => ?_) (fun c => absurd (by decide) c)
                  refine ev_iload dX7_close_107 rfl ?_
                  refine ev_istore (lv' := [(0, .ref 65), (1, .int (nI j)), (2, .int 1), (3, .int best), (4, .int gap), (5, .int (nI n)), (6, .int (-1)), (7, .int 0)]) dX7_close_109 (by decide) rfl ?_
                  refine ev_iinc (lv' := [(0, .ref 65), (1, .int (nI j)), (2, .int 1), (3, .int best), (4, .int gap), (5, .int (nI (n + 1))), (6, .int (-1)), (7, .int 0)]) (v := nI (n + 1)) dX7_close_111 rfl (nI_1 _) (by decide) rfl ?_
                  refine ev_goto (tgt := 30) dX7_close_114 (by decide) ?_
                  refine ev_keep (lv' := [(0, .ref 65), (1, .int (nI j)), (2, .int 1), (3, .int best), (4, .int gap), (5, .int (nI (n + 1)))]) [0, 1, 2, 3, 4, 5] rfl ?_
                  exact ih (n + 1) best gap σ1 (by omega) (by rw [s_clF c12n]; exact hb) (by rw [s_clF c12n]; exact hg) hI hF (by omega)
                · skip
                  have c12n : (s_on n) = j := (nI_eq (a := (s_on n)) (b := j) (by omega) (by omega)).mp c12
                  refine ev_aload_n dX7_close_48 rfl rfl ?_
                  refine ev_iload dX7_close_49 rfl ?_
                  refine ev_callV (as := [.int (nI n)]) (st := []) dX7_close_51 mfX7_apart lk_X7_229 (ly_k hI.ly 65 rfl) (by decide) rfl (c_X7_apart G D A σ1 hA hI n (by omega)) rfl rfl (Nat.le_of_ble_eq_true rfl) (am_hR (by omega) (by decide)) ⟨Nat.le_refl _, Nat.le_refl _⟩ ?_
                  rintro _ σ13 ⟨rfl, hI13, hF13⟩
                  refine ev_goto (tgt := 58) dX7_close_54 (by decide) ?_
                  refine ev_istore (lv' := [(0, .ref 65), (1, .int (nI j)), (2, .int 1), (3, .int best), (4, .int gap), (5, .int (nI n)), (6, .int (s_ap A (fun q => Nat.testBit n q)))]) dX7_close_58 (by decide) rfl ?_
                  refine ev_iload dX7_close_60 rfl ?_
                  refine ev_iconst (v := (-1)) dX7_close_62 (by decide) ?_
                  refine ev_icmp_eq (tgt := 82) dX7_close_63 (by decide) (fun c => absurd c (s_ap_n b8 _)) (fun _ => ?_)
                  refine ev_iload_n dX7_close_66 rfl rfl ?_
                  refine ev_iconst (v := (-1)) dX7_close_67 (by decide) ?_
                  refine ev_icmp_eq (tgt := 78) dX7_close_68 (by decide) (fun c => absurd c ((by rw [hb, ho]; exact s_bi_n (by omega)))) (fun _ => ?_)
                  refine ev_iload dX7_close_71 rfl ?_
                  refine ev_iload dX7_close_73 rfl ?_
                  refine ev_icmp_ge (tgt := 82) dX7_close_75 (by decide) (fun c14 => ?_) (fun c14 => ?_)
                  · skip
                    refine ev_iconst (v := 0) dX7_close_82 (by decide) ?_
                    refine ev_istore (lv' := [(0, .ref 65), (1, .int (nI j)), (2, .int 1), (3, .int best), (4, .int gap), (5, .int (nI n)), (6, .int (s_ap A (fun q => Nat.testBit n q))), (7, .int 0)]) dX7_close_83 (by decide) rfl ?_
                    refine ev_iload dX7_close_85 rfl ?_
                    refine ev_if_eq (tgt := 95) dX7_close_87 (by decide) (fun _ => ?_) (fun c => absurd (by decide) c)
                    refine ev_iload_n dX7_close_95 rfl rfl ?_
                    refine ev_istore_n (lv' := [(0, .ref 65), (1, .int (nI j)), (2, .int 1), (3, .int best), (4, .int gap), (5, .int (nI n)), (6, .int (s_ap A (fun q => Nat.testBit n q))), (7, .int 0)]) dX7_close_96 rfl (by decide) rfl ?_
                    refine ev_iload dX7_close_97 rfl ?_
                    refine ev_if_eq (tgt := 107) dX7_close_99 (by decide) (fun _ => ?_) (fun c => absurd (by decide) c)
                    refine ev_iload dX7_close_107 rfl ?_
                    refine ev_istore (lv' := [(0, .ref 65), (1, .int (nI j)), (2, .int 1), (3, .int best), (4, .int gap), (5, .int (nI n)), (6, .int (s_ap A (fun q => Nat.testBit n q))), (7, .int 0)]) dX7_close_109 (by decide) rfl ?_
                    refine ev_iinc (lv' := [(0, .ref 65), (1, .int (nI j)), (2, .int 1), (3, .int best), (4, .int gap), (5, .int (nI (n + 1))), (6, .int (s_ap A (fun q => Nat.testBit n q))), (7, .int 0)]) (v := nI (n + 1)) dX7_close_111 rfl (nI_1 _) (by decide) rfl ?_
                    refine ev_goto (tgt := 30) dX7_close_114 (by decide) ?_
                    refine ev_keep (lv' := [(0, .ref 65), (1, .int (nI j)), (2, .int 1), (3, .int best), (4, .int gap), (5, .int (nI (n + 1)))]) [0, 1, 2, 3, 4, 5] rfl ?_
                    exact ih (n + 1) best gap σ13 (by omega) (by rw [s_clK c12n ho (Int32.not_lt.mpr (by rw [hg, ho] at c14; exact c14)), ← ho]; exact hb) (by rw [s_clK c12n ho (Int32.not_lt.mpr (by rw [hg, ho] at c14; exact c14)), ← ho]; exact hg) hI13 (fr_M.tr hF hF13) (by omega)
                  · skip
                    refine ev_iconst (v := 1) dX7_close_78 (by decide) ?_
                    refine ev_goto (tgt := 83) dX7_close_79 (by decide) ?_
                    refine ev_istore (lv' := [(0, .ref 65), (1, .int (nI j)), (2, .int 1), (3, .int best), (4, .int gap), (5, .int (nI n)), (6, .int (s_ap A (fun q => Nat.testBit n q))), (7, .int 1)]) dX7_close_83 (by decide) rfl ?_
                    refine ev_iload dX7_close_85 rfl ?_
                    refine ev_if_eq (tgt := 95) dX7_close_87 (by decide) (fun c => absurd c (by decide)) (fun _ => ?_)
                    refine ev_iload dX7_close_90 rfl ?_
                    refine ev_goto (tgt := 96) dX7_close_92 (by decide) ?_
                    refine ev_istore_n (lv' := [(0, .ref 65), (1, .int (nI j)), (2, .int 1), (3, .int (nI n)), (4, .int gap), (5, .int (nI n)), (6, .int (s_ap A (fun q => Nat.testBit n q))), (7, .int 1)]) dX7_close_96 rfl (by decide) rfl ?_
                    refine ev_iload dX7_close_97 rfl ?_
                    refine ev_if_eq (tgt := 107) dX7_close_99 (by decide) (fun c => absurd c (by decide)) (fun _ => ?_)
                    refine ev_iload dX7_close_102 rfl ?_
                    refine ev_goto (tgt := 109) dX7_close_104 (by decide) ?_
                    refine ev_istore (lv' := [(0, .ref 65), (1, .int (nI j)), (2, .int 1), (3, .int (nI n)), (4, .int (s_ap A (fun q => Nat.testBit n q))), (5, .int (nI n)), (6, .int (s_ap A (fun q => Nat.testBit n q))), (7, .int 1)]) dX7_close_109 (by decide) rfl ?_
                    refine ev_iinc (lv' := [(0, .ref 65), (1, .int (nI j)), (2, .int 1), (3, .int (nI n)), (4, .int (s_ap A (fun q => Nat.testBit n q))), (5, .int (nI (n + 1))), (6, .int (s_ap A (fun q => Nat.testBit n q))), (7, .int 1)]) (v := nI (n + 1)) dX7_close_111 rfl (nI_1 _) (by decide) rfl ?_
                    refine ev_goto (tgt := 30) dX7_close_114 (by decide) ?_
                    refine ev_keep (lv' := [(0, .ref 65), (1, .int (nI j)), (2, .int 1), (3, .int (nI n)), (4, .int (s_ap A (fun q => Nat.testBit n q))), (5, .int (nI (n + 1)))]) [0, 1, 2, 3, 4, 5] rfl ?_
                    exact ih (n + 1) (nI n) (s_ap A (fun q => Nat.testBit n q)) σ13 (by omega) (by rw [s_clY c12n ho (Int32.not_le.mp (by rw [hg, ho] at c14; exact c14))]; rfl) (by rw [s_clY c12n ho (Int32.not_le.mp (by rw [hg, ho] at c14; exact c14))]; rfl) hI13 (fr_M.tr hF hF13) (by omega)
        exact lp _ 0 (-1) (-1) σ (Nat.zero_le _) rfl rfl hI fr_M.rf (Nat.lt_succ_self _)
    · skip
      have h2r := fun q => h2 ((am_rgl (n := 2) (by decide)).mpr q)
      have hw0 := am_w1 h2r
      refine ev_if_ne (tgt := 22) dX7_close_16 (by decide) (fun c => absurd (by decide) c) (fun _ => ?_)
      refine ev_bipush (v := (-2)) dX7_close_19 (by decide) ?_
      refine ev_reti dX7_close_21 rfl (Nat.zero_le _) (Nat.zero_le _) ?_
      refine ⟨?_, hI, fr_M.rf⟩
      simp [sp_close, am_inN hj (by omega), sN_n (show j < 2 ^ 31 by omega), hw0]
  · skip
    have hk := am_inF (n := 9) (by decide) (fun q => h1 ((am_rgl (n := 9) (by decide)).mpr q))
    refine ev_if_eq (tgt := 19) dX7_close_7 (by decide) (fun _ => ?_) (fun c => absurd (by decide) c)
    refine ev_bipush (v := (-2)) dX7_close_19 (by decide) ?_
    refine ev_reti dX7_close_21 rfl (Nat.zero_le _) (Nat.zero_le _) ?_
    refine ⟨?_, hI, fr_M.rf⟩
    simp [sp_close, hk]

set_option maxHeartbeats 400000 in
set_option maxRecDepth 100000 in
theorem c_X7_good (G : am_G) (D : Nat) (A : am_S) (σ : am_M) (hA : wf_A A) (hI : iv_M A σ) (q : Int32) : am_Mt G (D + 9) mX7_good [.ref 65, .int q] σ 0 0 (am_qM A (.int (sp_good A q)) σ) := by
  have b7 := wf_np7 hA
  have b8 := wf_nq8 hA
  have b6 := wf_nt6 hA
  have b61 := wf_nt1 hA
  have b160 := wf_tp160 hA
  have brl := wf_rlt hA
  refine am_of moX7_good (Nat.le_of_ble_eq_true rfl) ?_
  show am_Ev G mX7_good (am_R (D + 9) 0 0) 0 0 (am_qM A (.int (sp_good A q)) σ) 0 [(0, .ref 65), (1, .int q)] [] σ 0 0
  refine ev_aload_n dX7_good_0 rfl rfl ?_
  refine ev_iload_n dX7_good_1 rfl rfl ?_
  refine ev_callV (as := [.int q]) (st := []) dX7_good_2 mfX7_isQuestion lk_X7_180 (ly_k hI.ly 65 rfl) (by decide) rfl (c_X7_isQuestion G (D + 7) A σ hA hI q) rfl rfl (Nat.le_of_ble_eq_true rfl) (am_hR (by omega) (by decide)) ⟨Nat.le_refl _, Nat.le_refl _⟩ ?_
  rintro _ _ (⟨⟨j1, h1, rfl⟩, rfl, rfl⟩ | ⟨h1, rfl, rfl⟩)
  · skip
    refine ev_if_ne (tgt := 11) dX7_good_5 (by decide) (fun _ => ?_) (fun c => absurd c (by decide))
    refine ev_iconst (v := 0) dX7_good_11 (by decide) ?_
    refine ev_istore_n (lv' := [(0, .ref 65), (1, .int (nI j1)), (2, .int 0)]) dX7_good_12 rfl (by decide) rfl ?_
    refine ev_iconst (v := 0) dX7_good_13 (by decide) ?_
    refine ev_istore_n (lv' := [(0, .ref 65), (1, .int (nI j1)), (2, .int 0), (3, .int 0)]) dX7_good_14 rfl (by decide) rfl ?_
    have lp : ∀ (f : Nat) (a : Nat) (x : Int32) (σ1 : am_M), (a ≤ 3) → (x = s_g2 A j1 a) → (iv_M A σ1) → (fr_M σ σ1) → 3 - a < f → am_Ev G mX7_good (am_R (D + 9) 0 0) 0 0 (am_qM A (.int (sp_good A (nI j1))) σ) 15 [(0, .ref 65), (1, .int (nI j1)), (2, .int x), (3, .int (nI a))] [] σ1 0 0 := by
      intro f
      induction f with
      | zero => intro a x σ1 ha hx hI hF hf; exact absurd hf (Nat.not_lt_zero _)
      | succ f ih =>
        intro a x σ1 ha hx hI hF hf
        refine ev_iload_n dX7_good_15 rfl rfl ?_
        refine ev_iconst (v := 3) dX7_good_16 (by decide) ?_
        refine ev_icmp_ge (tgt := 109) dX7_good_17 (by decide) (fun c2 => ?_) (fun c2 => ?_)
        · skip
          have c2n : 3 ≤ a := (nI_leI (a := 3) (b := a) (by omega) (by omega)).mp c2
          refine ev_iload_n dX7_good_109 rfl rfl ?_
          refine ev_reti dX7_good_110 rfl (Nat.zero_le _) (Nat.zero_le _) ?_
          have e : a = 3 := by omega
          subst e
          refine ⟨?_, hI, hF⟩
          rw [hx]
          simp [sp_good, am_inN h1 (by omega), sN_n (show j1 < 2 ^ 31 by omega)]
        · skip
          have c2n : ¬ 3 ≤ a := fun zz => c2 ((nI_leI (a := 3) (b := a) (by omega) (by omega)).mpr zz)
          refine ev_iconst (v := 0) dX7_good_20 (by decide) ?_
          refine ev_istore (lv' := [(0, .ref 65), (1, .int (nI j1)), (2, .int x), (3, .int (nI a)), (4, .int 0)]) dX7_good_21 (by decide) rfl ?_
          have lq : ∀ (f : Nat) (b : Nat) (y : Int32) (σ2 : am_M), (b ≤ 3) → (y = s_g1 A j1 a (s_g2 A j1 a) b) → (iv_M A σ2) → (fr_M σ σ2) → 3 - b < f → am_Ev G mX7_good (am_R (D + 9) 0 0) 0 0 (am_qM A (.int (sp_good A (nI j1))) σ) 23 [(0, .ref 65), (1, .int (nI j1)), (2, .int y), (3, .int (nI a)), (4, .int (nI b))] [] σ2 0 0 := by
            intro f
            induction f with
            | zero => intro b y σ2 hb hy hI2 hF2 hf; exact absurd hf (Nat.not_lt_zero _)
            | succ f ih_lq =>
              intro b y σ2 hb hy hI2 hF2 hf
              refine ev_iload dX7_good_23 rfl ?_
              refine ev_iconst (v := 3) dX7_good_25 (by decide) ?_
              refine ev_icmp_ge (tgt := 103) dX7_good_26 (by decide) (fun c3 => ?_) (fun c3 => ?_)
              · skip
                have c3n : 3 ≤ b := (nI_leI (a := 3) (b := b) (by omega) (by omega)).mp c3
                refine ev_iinc (lv' := [(0, .ref 65), (1, .int (nI j1)), (2, .int y), (3, .int (nI (a + 1))), (4, .int (nI b))]) (v := nI (a + 1)) dX7_good_103 rfl (nI_1 _) (by decide) rfl ?_
                refine ev_goto (tgt := 15) dX7_good_106 (by decide) ?_
                refine ev_keep (lv' := [(0, .ref 65), (1, .int (nI j1)), (2, .int y), (3, .int (nI (a + 1)))]) [0, 1, 2, 3] rfl ?_
                exact ih (a + 1) y σ2 (by omega) (by have e : b = 3 := (by omega); subst e; exact hy) hI2 hF2 (by omega)
              · skip
                have c3n : ¬ 3 ≤ b := fun zz => c3 ((nI_leI (a := 3) (b := b) (by omega) (by omega)).mpr zz)
                refine ev_iload_n dX7_good_29 rfl rfl ?_
                refine ev_iload dX7_good_30 rfl ?_
                refine ev_icmp_eq (tgt := 97) dX7_good_32 (by decide) (fun c4 => ?_) (fun c4 => ?_)
                · skip
                  have c4n : a = b := (nI_eq (a := a) (b := b) (by omega) (by omega)).mp c4
                  refine ev_iinc (lv' := [(0, .ref 65), (1, .int (nI j1)), (2, .int y), (3, .int (nI a)), (4, .int (nI (b + 1)))]) (v := nI (b + 1)) dX7_good_97 rfl (nI_1 _) (by decide) rfl ?_
                  refine ev_goto (tgt := 23) dX7_good_100 (by decide) ?_
                  exact ih_lq (b + 1) y σ2 (by omega) (by rw [s_g1S, s_pg0 (fun z => z.1 c4n), hy]; exact (Int32.add_zero _).symm) hI2 hF2 (by omega)
                · skip
                  have c4n : ¬ a = b := fun zz => c4 ((nI_eq (a := a) (b := b) (by omega) (by omega)).mpr zz)
                  refine ev_aload_n dX7_good_35 rfl rfl ?_
                  refine ev_iload_n dX7_good_36 rfl rfl ?_
                  refine ev_iload_n dX7_good_37 rfl rfl ?_
                  refine ev_callV (as := [.int (nI a), .int (nI j1)]) (st := []) dX7_good_38 mfX7_isRight lk_X7_202 (ly_k hI2.ly 65 rfl) (by decide) rfl (c_X7_isRight G (D + 3) A σ2 hA hI2 a j1 (by omega)) rfl rfl (Nat.le_of_ble_eq_true rfl) (am_hR (by omega) (by decide)) ⟨Nat.le_refl _, Nat.le_refl _⟩ ?_
                  rintro _ σ5 (⟨h5, rfl, hI5, hF5⟩ | ⟨h5, rfl, hI5, hF5⟩)
                  · skip
                    refine ev_if_eq (tgt := 97) dX7_good_41 (by decide) (fun c => absurd c (by decide)) (fun _ => ?_)
                    refine ev_aload_n dX7_good_44 rfl rfl ?_
                    refine ev_iload dX7_good_45 rfl ?_
                    refine ev_iload_n dX7_good_47 rfl rfl ?_
                    refine ev_callV (as := [.int (nI b), .int (nI j1)]) (st := []) dX7_good_48 mfX7_isRight lk_X7_202 (ly_k hI5.ly 65 rfl) (by decide) rfl (c_X7_isRight G (D + 3) A σ5 hA hI5 b j1 (by omega)) rfl rfl (Nat.le_of_ble_eq_true rfl) (am_hR (by omega) (by decide)) ⟨Nat.le_refl _, Nat.le_refl _⟩ ?_
                    rintro _ σ6 (⟨h6, rfl, hI6, hF6⟩ | ⟨h6, rfl, hI6, hF6⟩)
                    · skip
                      refine ev_if_ne (tgt := 97) dX7_good_51 (by decide) (fun _ => ?_) (fun c => absurd c (by decide))
                      refine ev_iinc (lv' := [(0, .ref 65), (1, .int (nI j1)), (2, .int y), (3, .int (nI a)), (4, .int (nI (b + 1)))]) (v := nI (b + 1)) dX7_good_97 rfl (nI_1 _) (by decide) rfl ?_
                      refine ev_goto (tgt := 23) dX7_good_100 (by decide) ?_
                      exact ih_lq (b + 1) y σ6 (by omega) (by rw [s_g1S, s_pg0 (fun z => z.2.2 h6), hy]; exact (Int32.add_zero _).symm) hI6 (fr_M.tr (fr_M.tr hF2 hF5) hF6) (by omega)
                    · skip
                      refine ev_if_ne (tgt := 97) dX7_good_51 (by decide) (fun c => absurd (by decide) c) (fun _ => ?_)
                      refine ev_aload_n dX7_good_54 rfl rfl ?_
                      refine ev_iload_n dX7_good_55 rfl rfl ?_
                      refine ev_callV (as := [.int (nI a)]) (st := []) dX7_good_56 mfX7_scoreNow lk_X7_217 (ly_k hI6.ly 65 rfl) (by decide) rfl (c_X7_scoreNow G D A σ6 hA hI6 a (by omega)) rfl rfl (Nat.le_of_ble_eq_true rfl) (am_hR (by omega) (by decide)) ⟨Nat.le_refl _, Nat.le_refl _⟩ ?_
                      rintro _ σ7 ⟨rfl, hI7, hF7⟩
                      refine ev_aload_n dX7_good_59 rfl rfl ?_
                      refine ev_iload_n dX7_good_60 rfl rfl ?_
                      refine ev_iload_n dX7_good_61 rfl rfl ?_
                      refine ev_callV (as := [.int (nI a), .int (nI j1)]) (st := [.int (s_now A a)]) dX7_good_62 mfX7_pointsOf lk_X7_208 (ly_k hI7.ly 65 rfl) (by decide) rfl (c_X7_pointsOf G (D + 2) A σ7 hA hI7 a j1 (by omega) (by omega)) rfl rfl (Nat.le_of_ble_eq_true rfl) (am_hR (by omega) (by decide)) ⟨Nat.le_refl _, Nat.le_refl _⟩ ?_
                      rintro _ σ8 ⟨rfl, hI8, hF8⟩
                      refine ev_isub (v := (s_now A a) - (s_ps2 A a j1)) dX7_good_65 rfl ?_
                      refine ev_aload_n dX7_good_66 rfl rfl ?_
                      refine ev_iload dX7_good_67 rfl ?_
                      refine ev_callV (as := [.int (nI b)]) (st := [.int ((s_now A a) - (s_ps2 A a j1))]) dX7_good_69 mfX7_scoreNow lk_X7_217 (ly_k hI8.ly 65 rfl) (by decide) rfl (c_X7_scoreNow G D A σ8 hA hI8 b (by omega)) rfl rfl (Nat.le_of_ble_eq_true rfl) (am_hR (by omega) (by decide)) ⟨Nat.le_refl _, Nat.le_refl _⟩ ?_
                      rintro _ σ9 ⟨rfl, hI9, hF9⟩
                      refine ev_isub (v := ((s_now A a) - (s_ps2 A a j1)) - (s_now A b)) dX7_good_72 rfl ?_
                      refine ev_istore (lv' := [(0, .ref 65), (1, .int (nI j1)), (2, .int y), (3, .int (nI a)), (4, .int (nI b)), (5, .int (((s_now A a) - (s_ps2 A a j1)) - (s_now A b)))]) dX7_good_73 (by decide) rfl ?_
                      refine ev_iload_n dX7_good_75 rfl rfl ?_
                      refine ev_iload dX7_good_76 rfl ?_
                      refine ev_if_le (tgt := 85) dX7_good_78 (by decide) (fun c10 => ?_) (fun c10 => ?_)
                      · skip
                        refine ev_iload dX7_good_85 rfl ?_
                        refine ev_if_ge (tgt := 94) dX7_good_87 (by decide) (fun c11 => ?_) (fun c11 => ?_)
                        · skip
                          refine ev_iconst (v := 0) dX7_good_94 (by decide) ?_
                          refine ev_iadd (v := y + 0) dX7_good_95 rfl ?_
                          refine ev_istore_n (lv' := [(0, .ref 65), (1, .int (nI j1)), (2, .int (y + 0)), (3, .int (nI a)), (4, .int (nI b)), (5, .int (((s_now A a) - (s_ps2 A a j1)) - (s_now A b)))]) dX7_good_96 rfl (by decide) rfl ?_
                          refine ev_iinc (lv' := [(0, .ref 65), (1, .int (nI j1)), (2, .int (y + 0)), (3, .int (nI a)), (4, .int (nI (b + 1))), (5, .int (((s_now A a) - (s_ps2 A a j1)) - (s_now A b)))]) (v := nI (b + 1)) dX7_good_97 rfl (nI_1 _) (by decide) rfl ?_
                          refine ev_goto (tgt := 23) dX7_good_100 (by decide) ?_
                          refine ev_keep (lv' := [(0, .ref 65), (1, .int (nI j1)), (2, .int (y + 0)), (3, .int (nI a)), (4, .int (nI (b + 1)))]) [0, 1, 2, 3, 4] rfl ?_
                          exact ih_lq (b + 1) (y + 0) σ9 (by omega) (by rw [s_g1S, s_pg1 ⟨c4n, h5, h6⟩, s_snZ (Int32.not_lt.mpr c10) (Int32.not_lt.mpr c11), hy]) hI9 (fr_M.tr (fr_M.tr (fr_M.tr (fr_M.tr (fr_M.tr hF2 hF5) hF6) hF7) hF8) hF9) (by omega)
                        · skip
                          refine ev_iconst (v := (-1)) dX7_good_90 (by decide) ?_
                          refine ev_goto (tgt := 95) dX7_good_91 (by decide) ?_
                          refine ev_iadd (v := y + (-1)) dX7_good_95 rfl ?_
                          refine ev_istore_n (lv' := [(0, .ref 65), (1, .int (nI j1)), (2, .int (y + (-1))), (3, .int (nI a)), (4, .int (nI b)), (5, .int (((s_now A a) - (s_ps2 A a j1)) - (s_now A b)))]) dX7_good_96 rfl (by decide) rfl ?_
                          refine ev_iinc (lv' := [(0, .ref 65), (1, .int (nI j1)), (2, .int (y + (-1))), (3, .int (nI a)), (4, .int (nI (b + 1))), (5, .int (((s_now A a) - (s_ps2 A a j1)) - (s_now A b)))]) (v := nI (b + 1)) dX7_good_97 rfl (nI_1 _) (by decide) rfl ?_
                          refine ev_goto (tgt := 23) dX7_good_100 (by decide) ?_
                          refine ev_keep (lv' := [(0, .ref 65), (1, .int (nI j1)), (2, .int (y + (-1))), (3, .int (nI a)), (4, .int (nI (b + 1)))]) [0, 1, 2, 3, 4] rfl ?_
                          exact ih_lq (b + 1) (y + (-1)) σ9 (by omega) (by rw [s_g1S, s_pg1 ⟨c4n, h5, h6⟩, s_snM (Int32.not_lt.mpr c10) (Int32.not_le.mp c11), hy]) hI9 (fr_M.tr (fr_M.tr (fr_M.tr (fr_M.tr (fr_M.tr hF2 hF5) hF6) hF7) hF8) hF9) (by omega)
                      · skip
                        refine ev_iconst (v := 1) dX7_good_81 (by decide) ?_
                        refine ev_goto (tgt := 95) dX7_good_82 (by decide) ?_
                        refine ev_iadd (v := y + 1) dX7_good_95 rfl ?_
                        refine ev_istore_n (lv' := [(0, .ref 65), (1, .int (nI j1)), (2, .int (y + 1)), (3, .int (nI a)), (4, .int (nI b)), (5, .int (((s_now A a) - (s_ps2 A a j1)) - (s_now A b)))]) dX7_good_96 rfl (by decide) rfl ?_
                        refine ev_iinc (lv' := [(0, .ref 65), (1, .int (nI j1)), (2, .int (y + 1)), (3, .int (nI a)), (4, .int (nI (b + 1))), (5, .int (((s_now A a) - (s_ps2 A a j1)) - (s_now A b)))]) (v := nI (b + 1)) dX7_good_97 rfl (nI_1 _) (by decide) rfl ?_
                        refine ev_goto (tgt := 23) dX7_good_100 (by decide) ?_
                        refine ev_keep (lv' := [(0, .ref 65), (1, .int (nI j1)), (2, .int (y + 1)), (3, .int (nI a)), (4, .int (nI (b + 1)))]) [0, 1, 2, 3, 4] rfl ?_
                        exact ih_lq (b + 1) (y + 1) σ9 (by omega) (by rw [s_g1S, s_pg1 ⟨c4n, h5, h6⟩, s_snP (Int32.not_le.mp c10), hy]) hI9 (fr_M.tr (fr_M.tr (fr_M.tr (fr_M.tr (fr_M.tr hF2 hF5) hF6) hF7) hF8) hF9) (by omega)
                  · skip
                    refine ev_if_eq (tgt := 97) dX7_good_41 (by decide) (fun _ => ?_) (fun c => absurd (by decide) c)
                    refine ev_iinc (lv' := [(0, .ref 65), (1, .int (nI j1)), (2, .int y), (3, .int (nI a)), (4, .int (nI (b + 1)))]) (v := nI (b + 1)) dX7_good_97 rfl (nI_1 _) (by decide) rfl ?_
                    refine ev_goto (tgt := 23) dX7_good_100 (by decide) ?_
                    exact ih_lq (b + 1) y σ5 (by omega) (by rw [s_g1S, s_pg0 (fun z => h5 z.2.1), hy]; exact (Int32.add_zero _).symm) hI5 (fr_M.tr hF2 hF5) (by omega)
          exact lq _ 0 x σ1 (by omega) hx hI hF (Nat.lt_succ_self _)
    exact lp _ 0 0 σ (by omega) rfl hI fr_M.rf (Nat.lt_succ_self _)
  · skip
    refine ev_if_ne (tgt := 11) dX7_good_5 (by decide) (fun c => absurd (by decide) c) (fun _ => ?_)
    refine ev_ldc dX7_good_8 ct_X7_244 ?_
    refine ev_reti dX7_good_10 rfl (Nat.zero_le _) (Nat.zero_le _) ?_
    refine ⟨?_, hI, fr_M.rf⟩
    simp [sp_good, am_inF (by omega) h1]

