/-! the reference, I -/
theorem am_pred {n : Nat} (hn : n ≤ 1000) : (nI n - 1).toInt = (n : Int) - 1 := by
  have e : (1 : Int32) = nI 1 := rfl
  rw [e, pk_sub_toInt (by omega) (by omega)]
  rfl
theorem am_rgp {x : Int32} {n : Nat} (hn : n ≤ 1000) : (0 ≤ x ∧ x ≤ nI n - 1) ↔ am_rg x n := by
  rw [am_rgt (by omega), Int32.le_iff_toInt_le, Int32.le_iff_toInt_le, am_pred hn]
  have e : (0 : Int32).toInt = 0 := rfl
  rw [e]
  omega
set_option maxHeartbeats 400000 in
set_option maxRecDepth 100000 in
theorem c_X7_isOne (G : am_G) (D : Nat) (A : am_S) (σ : am_M) (hA : wf_A A) (hI : iv_M A σ) (p : Int32) : am_Mt G (D + 1) mX7_isOne [.ref 65, .int p] σ 0 0 (am_zq (am_rg p (s_np A)) σ) := by
  have b7 := wf_np7 hA
  have b8 := wf_nq8 hA
  have b6 := wf_nt6 hA
  have b61 := wf_nt1 hA
  have b160 := wf_tp160 hA
  have brl := wf_rlt hA
  refine am_of moX7_isOne (Nat.le_of_ble_eq_true rfl) ?_
  show am_Ev G mX7_isOne (am_R (D + 1) 0 0) 0 0 (am_zq (am_rg p (s_np A)) σ) 0 [(0, .ref 65), (1, .int p)] [] σ 0 0
  refine ev_iload_n dX7_isOne_0 rfl rfl ?_
  refine ev_iconst (v := 0) dX7_isOne_1 (by decide) ?_
  refine ev_aload_n dX7_isOne_2 rfl rfl ?_
  refine ev_getI (v := nI (s_np A)) dX7_isOne_3 fl_X7_87 (ly_k hI.ly 65 rfl) ((hI.rd 65 0 rfl).trans (wf_np hA)) ?_
  refine ev_iconst (v := 1) dX7_isOne_6 (by decide) ?_
  refine ev_isub (v := (nI (s_np A)) - 1) dX7_isOne_7 rfl ?_
  refine ev_callS (as := [.int p, .int 0, .int ((nI (s_np A)) - 1)]) (st := []) dX7_isOne_8 mfX7_in lk_X7_90 (c_X7_in G D σ p 0 ((nI (s_np A)) - 1)) rfl rfl (Nat.le_of_ble_eq_true rfl) (am_hR (by omega) (by decide)) ⟨Nat.le_refl _, Nat.le_refl _⟩ ?_
  rintro _ _ (⟨h1, rfl, rfl⟩ | ⟨h1, rfl, rfl⟩)
  · skip
    refine ev_retz dX7_isOne_11 rfl (Or.inr rfl) (Nat.zero_le _) (Nat.zero_le _) ?_
    exact Or.inl ⟨(am_rgp (by omega)).mp h1, rfl, rfl⟩
  · skip
    refine ev_retz dX7_isOne_11 rfl (Or.inl rfl) (Nat.zero_le _) (Nat.zero_le _) ?_
    exact Or.inr ⟨fun q => h1 ((am_rgp (by omega)).mpr q), rfl, rfl⟩

set_option maxHeartbeats 400000 in
set_option maxRecDepth 100000 in
theorem c_X7_isQuestion (G : am_G) (D : Nat) (A : am_S) (σ : am_M) (hA : wf_A A) (hI : iv_M A σ) (q : Int32) : am_Mt G (D + 1) mX7_isQuestion [.ref 65, .int q] σ 0 0 (am_zq (am_rg q (s_nq A)) σ) := by
  have b7 := wf_np7 hA
  have b8 := wf_nq8 hA
  have b6 := wf_nt6 hA
  have b61 := wf_nt1 hA
  have b160 := wf_tp160 hA
  have brl := wf_rlt hA
  refine am_of moX7_isQuestion (Nat.le_of_ble_eq_true rfl) ?_
  show am_Ev G mX7_isQuestion (am_R (D + 1) 0 0) 0 0 (am_zq (am_rg q (s_nq A)) σ) 0 [(0, .ref 65), (1, .int q)] [] σ 0 0
  refine ev_iload_n dX7_isQuestion_0 rfl rfl ?_
  refine ev_iconst (v := 0) dX7_isQuestion_1 (by decide) ?_
  refine ev_aload_n dX7_isQuestion_2 rfl rfl ?_
  refine ev_getI (v := nI (s_nq A)) dX7_isQuestion_3 fl_X7_94 (ly_k hI.ly 65 rfl) ((hI.rd 65 6 rfl).trans (wf_nq hA)) ?_
  refine ev_iconst (v := 1) dX7_isQuestion_6 (by decide) ?_
  refine ev_isub (v := (nI (s_nq A)) - 1) dX7_isQuestion_7 rfl ?_
  refine ev_callS (as := [.int q, .int 0, .int ((nI (s_nq A)) - 1)]) (st := []) dX7_isQuestion_8 mfX7_in lk_X7_90 (c_X7_in G D σ q 0 ((nI (s_nq A)) - 1)) rfl rfl (Nat.le_of_ble_eq_true rfl) (am_hR (by omega) (by decide)) ⟨Nat.le_refl _, Nat.le_refl _⟩ ?_
  rintro _ _ (⟨h1, rfl, rfl⟩ | ⟨h1, rfl, rfl⟩)
  · skip
    refine ev_retz dX7_isQuestion_11 rfl (Or.inr rfl) (Nat.zero_le _) (Nat.zero_le _) ?_
    exact Or.inl ⟨(am_rgp (by omega)).mp h1, rfl, rfl⟩
  · skip
    refine ev_retz dX7_isQuestion_11 rfl (Or.inl rfl) (Nat.zero_le _) (Nat.zero_le _) ?_
    exact Or.inr ⟨fun q => h1 ((am_rgp (by omega)).mpr q), rfl, rfl⟩

def sp_count (A : am_S) (v : Int32) : Int32 := if v = 0 then A 65 0 else if v = 1 then A 65 6 else if v = 2 then A 65 14 else if v = 3 then A 65 15 else if v = 4 then A 65 11 else -2
set_option maxHeartbeats 400000 in
set_option maxRecDepth 100000 in
theorem c_X7_count (G : am_G) (D : Nat) (A : am_S) (σ : am_M) (hA : wf_A A) (hI : iv_M A σ) (v : Int32) : am_Mt G D mX7_count [.ref 65, .int v] σ 0 0 (am_q (.int (sp_count A v)) σ) := by
  have b7 := wf_np7 hA
  have b8 := wf_nq8 hA
  have b6 := wf_nt6 hA
  have b61 := wf_nt1 hA
  have b160 := wf_tp160 hA
  have brl := wf_rlt hA
  refine am_of moX7_count (Nat.le_of_ble_eq_true rfl) ?_
  show am_Ev G mX7_count (am_R D 0 0) 0 0 (am_q (.int (sp_count A v)) σ) 0 [(0, .ref 65), (1, .int v)] [] σ 0 0
  refine ev_iload_n dX7_count_0 rfl rfl ?_
  by_cases c1 : v = 0 ∨ v = 1 ∨ v = 2 ∨ v = 3 ∨ v = 4
  · rcases c1 with c1 | c1 | c1 | c1 | c1
    · subst c1
      refine ev_tableIn (tgt := 36) (off := 35) dX7_count_1 (by decide) (by decide) rfl (by decide) ?_
      refine ev_aload_n dX7_count_36 rfl rfl ?_
      refine ev_getI (v := A 65 0) dX7_count_37 fl_X7_87 (ly_k hI.ly 65 rfl) (hI.rd 65 0 rfl) ?_
      refine ev_reti dX7_count_40 rfl (Nat.zero_le _) (Nat.zero_le _) ?_
      exact ⟨by simp_all [sp_count], rfl⟩
    · subst c1
      refine ev_tableIn (tgt := 41) (off := 40) dX7_count_1 (by decide) (by decide) rfl (by decide) ?_
      refine ev_aload_n dX7_count_41 rfl rfl ?_
      refine ev_getI (v := A 65 6) dX7_count_42 fl_X7_94 (ly_k hI.ly 65 rfl) (hI.rd 65 6 rfl) ?_
      refine ev_reti dX7_count_45 rfl (Nat.zero_le _) (Nat.zero_le _) ?_
      exact ⟨by simp_all [sp_count], rfl⟩
    · subst c1
      refine ev_tableIn (tgt := 46) (off := 45) dX7_count_1 (by decide) (by decide) rfl (by decide) ?_
      refine ev_aload_n dX7_count_46 rfl rfl ?_
      refine ev_getI (v := A 65 14) dX7_count_47 fl_X7_97 (ly_k hI.ly 65 rfl) (hI.rd 65 14 rfl) ?_
      refine ev_reti dX7_count_50 rfl (Nat.zero_le _) (Nat.zero_le _) ?_
      exact ⟨by simp_all [sp_count], rfl⟩
    · subst c1
      refine ev_tableIn (tgt := 51) (off := 50) dX7_count_1 (by decide) (by decide) rfl (by decide) ?_
      refine ev_aload_n dX7_count_51 rfl rfl ?_
      refine ev_getI (v := A 65 15) dX7_count_52 fl_X7_100 (ly_k hI.ly 65 rfl) (hI.rd 65 15 rfl) ?_
      refine ev_reti dX7_count_55 rfl (Nat.zero_le _) (Nat.zero_le _) ?_
      exact ⟨by simp_all [sp_count], rfl⟩
    · subst c1
      refine ev_tableIn (tgt := 56) (off := 55) dX7_count_1 (by decide) (by decide) rfl (by decide) ?_
      refine ev_aload_n dX7_count_56 rfl rfl ?_
      refine ev_getI (v := A 65 11) dX7_count_57 fl_X7_79 (ly_k hI.ly 65 rfl) (hI.rd 65 11 rfl) ?_
      refine ev_reti dX7_count_60 rfl (Nat.zero_le _) (Nat.zero_le _) ?_
      exact ⟨by simp_all [sp_count], rfl⟩
  · skip
    refine ev_tableOut (tgt := 61) dX7_count_1 (by simp [← Int32.toInt_inj] at c1; omega) (by decide) ?_
    refine ev_bipush (v := (-2)) dX7_count_61 (by decide) ?_
    refine ev_reti dX7_count_63 rfl (Nat.zero_le _) (Nat.zero_le _) ?_
    exact ⟨by simp_all [sp_count], rfl⟩

