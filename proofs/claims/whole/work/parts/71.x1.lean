/-! the class: small readers, one of people -/
theorem np_up {A : am_S} {b m P : Nat} {v : Int32} (h : ¬ (65 = b ∧ 0 = m)) (hP : P < s_np A) : P < s_np (am_up A b m v) := by
  unfold s_np at *
  rw [am_un h]
  exact hP
theorem nt_up {A : am_S} {b m P : Nat} {v : Int32} (h : ¬ (65 = b ∧ 14 = m)) (hP : P < s_nt A) : P < s_nt (am_up A b m v) := by
  unfold s_nt at *
  rw [am_un h]
  exact hP
/-- three cells written -/
def am_w3 (σ : am_M) (a k : Nat) (x y z : Int32) : am_M := am_sI (am_sI (am_sI σ a k x) a (k + 1) y) a (k + 2) z
def am_qv (τ : am_M) : Option Value → am_M → Prop := fun r σ' => r = none ∧ τ = σ'
/-- which of people -/
def am_qP1 (A : am_S) (σ0 : am_M) (p : Int32) : Option Value → am_M → Prop := fun r σ' => (∃ P g, p = nI P ∧ P < s_np A ∧ σ0.2.2 33 P = some g ∧ r = some (.ref g) ∧ σ0 = σ') ∨ (¬ am_rg p (s_np A) ∧ r = some .null ∧ σ0 = σ')
def am_qS1 (σ0 : am_M) (s : Int32) : Option Value → am_M → Prop := fun r σ' => (∃ S, s = nI S ∧ S < 4 ∧ r = some (.ref (42 + 2 * S)) ∧ σ0 = σ') ∨ (¬ am_rg s 4 ∧ r = some .null ∧ σ0 = σ')
set_option maxHeartbeats 400000 in
set_option maxRecDepth 100000 in
theorem c_X6_name (G : am_G) (D : Nat) (A : am_S) (σ : am_M) (hX : iv_X A σ) (N : Nat) (hN : σ.1[N]? = some (10, 6)) (h9 : 54 ≤ N ∧ N < 62) (x y z : Int32) : am_Mt G D mX6_name [.ref N, .int x, .int y, .int z] σ 0 0 (am_qv (am_w3 σ N 0 x y z)) := by
  refine am_of moX6_name (Nat.le_of_ble_eq_true rfl) ?_
  show am_Ev G mX6_name (am_R D 0 0) 0 0 (am_qv (am_w3 σ N 0 x y z)) 0 [(0, .ref N), (1, .int x), (2, .int y), (3, .int z)] [] σ 0 0
  refine ev_aload_n dX6_name_0 rfl rfl ?_
  refine ev_alen (v := 6) dX6_name_1 hN (by decide) rfl ?_
  refine ev_bipush (v := 6) dX6_name_2 (by decide) ?_
  refine ev_icmp_ge (tgt := 8) dX6_name_4 (by decide) (fun _ => ?_) (fun c => absurd (by decide) c)
  refine ev_aload_n dX6_name_8 rfl rfl ?_
  refine ev_iconst (v := 0) dX6_name_9 (by decide) ?_
  refine ev_iload_n dX6_name_10 rfl rfl ?_
  refine ev_iast dX6_name_11 hN (am_ixn (j := 0) (by decide) (by decide)) ?_
  refine ev_aload_n dX6_name_12 rfl rfl ?_
  refine ev_iconst (v := 1) dX6_name_13 (by decide) ?_
  refine ev_iload_n dX6_name_14 rfl rfl ?_
  refine ev_iast dX6_name_15 hN (am_ixn (j := 1) (by decide) (by decide)) ?_
  refine ev_aload_n dX6_name_16 rfl rfl ?_
  refine ev_iconst (v := 2) dX6_name_17 (by decide) ?_
  refine ev_iload_n dX6_name_18 rfl rfl ?_
  refine ev_iast dX6_name_19 hN (am_ixn (j := 2) (by decide) (by decide)) ?_
  refine ev_retv dX6_name_20 rfl (Nat.zero_le _) (Nat.zero_le _) ?_
  exact ⟨rfl, rfl⟩

set_option maxHeartbeats 400000 in
set_option maxRecDepth 100000 in
theorem c_X6_nameMore (G : am_G) (D : Nat) (A : am_S) (σ : am_M) (hX : iv_X A σ) (N : Nat) (hN : σ.1[N]? = some (10, 6)) (h9 : 54 ≤ N ∧ N < 62) (x y z : Int32) : am_Mt G D mX6_nameMore [.ref N, .int x, .int y, .int z] σ 0 0 (am_qv (am_w3 σ N 3 x y z)) := by
  refine am_of moX6_nameMore (Nat.le_of_ble_eq_true rfl) ?_
  show am_Ev G mX6_nameMore (am_R D 0 0) 0 0 (am_qv (am_w3 σ N 3 x y z)) 0 [(0, .ref N), (1, .int x), (2, .int y), (3, .int z)] [] σ 0 0
  refine ev_aload_n dX6_nameMore_0 rfl rfl ?_
  refine ev_alen (v := 6) dX6_nameMore_1 hN (by decide) rfl ?_
  refine ev_bipush (v := 6) dX6_nameMore_2 (by decide) ?_
  refine ev_icmp_ge (tgt := 8) dX6_nameMore_4 (by decide) (fun _ => ?_) (fun c => absurd (by decide) c)
  refine ev_aload_n dX6_nameMore_8 rfl rfl ?_
  refine ev_iconst (v := 3) dX6_nameMore_9 (by decide) ?_
  refine ev_iload_n dX6_nameMore_10 rfl rfl ?_
  refine ev_iast dX6_nameMore_11 hN (am_ixn (j := 3) (by decide) (by decide)) ?_
  refine ev_aload_n dX6_nameMore_12 rfl rfl ?_
  refine ev_iconst (v := 4) dX6_nameMore_13 (by decide) ?_
  refine ev_iload_n dX6_nameMore_14 rfl rfl ?_
  refine ev_iast dX6_nameMore_15 hN (am_ixn (j := 4) (by decide) (by decide)) ?_
  refine ev_aload_n dX6_nameMore_16 rfl rfl ?_
  refine ev_iconst (v := 5) dX6_nameMore_17 (by decide) ?_
  refine ev_iload_n dX6_nameMore_18 rfl rfl ?_
  refine ev_iast dX6_nameMore_19 hN (am_ixn (j := 5) (by decide) (by decide)) ?_
  refine ev_retv dX6_nameMore_20 rfl (Nat.zero_le _) (Nat.zero_le _) ?_
  exact ⟨rfl, rfl⟩

set_option maxHeartbeats 400000 in
set_option maxRecDepth 100000 in
theorem c_X6_personAt (G : am_G) (D : Nat) (A : am_S) (σ : am_M) (hA : wf_A A) (hX : iv_X A σ) (p : Int32) : am_Mt G D mX6_personAt [.ref 32, .int p] σ 0 0 (am_qP1 A σ p) := by
  have b7 := wf_np7 hA
  have b8 := wf_nq8 hA
  have b6 := wf_nt6 hA
  have b61 := wf_nt1 hA
  have b160 := wf_tp160 hA
  have brl := wf_rlt hA
  refine am_of moX6_personAt (Nat.le_of_ble_eq_true rfl) ?_
  show am_Ev G mX6_personAt (am_R D 0 0) 0 0 (am_qP1 A σ p) 0 [(0, .ref 32), (1, .int p)] [] σ 0 0
  refine ev_iload_n dX6_personAt_0 rfl rfl ?_
  refine ev_if_lt (tgt := 27) dX6_personAt_1 (by decide) (fun c1 => ?_) (fun c1 => ?_)
  · skip
    refine ev_null dX6_personAt_27 ?_
    refine ev_retaN dX6_personAt_28 rfl (Nat.zero_le _) (Nat.zero_le _) ?_
    exact Or.inr ⟨am_rgn (by omega) c1, rfl, rfl⟩
  · skip
    refine ev_iload_n dX6_personAt_4 rfl rfl ?_
    refine ev_aload_n dX6_personAt_5 rfl rfl ?_
    refine ev_getI (v := nI (s_np A)) dX6_personAt_6 fl_X6_85 (ly_k hX.ly 32 rfl) (hX.f12.trans (wf_np hA)) ?_
    refine ev_icmp_ge (tgt := 27) dX6_personAt_9 (by decide) (fun c2 => ?_) (fun c2 => ?_)
    · skip
      refine ev_null dX6_personAt_27 ?_
      refine ev_retaN dX6_personAt_28 rfl (Nat.zero_le _) (Nat.zero_le _) ?_
      exact Or.inr ⟨am_rgm (nI_toInt (by omega)) c2, rfl, rfl⟩
    · skip
      obtain ⟨P, hP, rfl⟩ : am_rg p (s_np A) := am_rg2 (nI_toInt (by omega)) c1 c2
      obtain ⟨g, hg⟩ := hX.ge hP
      refine ev_iload_n dX6_personAt_12 rfl rfl ?_
      refine ev_bipush (v := 7) dX6_personAt_13 (by decide) ?_
      refine ev_icmp_ge (tgt := 27) dX6_personAt_15 (by decide) (fun c => absurd c (Int32.not_le.mpr (nI_lt (a := P) (b := 7) (by omega) (by decide)))) (fun _ => ?_)
      refine ev_aload_n dX6_personAt_18 rfl rfl ?_
      refine ev_getR (b := 33) dX6_personAt_19 fl_X6_11 (ly_k hX.ly 32 rfl) (ly_r hX.ly 0 rfl) ?_
      refine ev_iload_n dX6_personAt_22 rfl rfl ?_
      refine ev_aald (r := (some g)) dX6_personAt_23 (ly_k hX.ly 33 rfl) (by decide) (am_ixn (by omega) (by decide)) hg ?_
      refine ev_goto (tgt := 28) dX6_personAt_24 (by decide) ?_
      refine ev_reta dX6_personAt_28 rfl (Nat.zero_le _) (Nat.zero_le _) ?_
      exact Or.inl ⟨P, g, rfl, hP, hg, rfl, rfl⟩

set_option maxHeartbeats 400000 in
set_option maxRecDepth 100000 in
theorem c_X6_personAtN (G : am_G) (D : Nat) (A : am_S) (σ : am_M) (hA : wf_A A) (hX : iv_X A σ) (P g : Nat) (hP : P < s_np A) (hg : σ.2.2 33 P = some g) : am_Mt G D mX6_personAt [.ref 32, .int (nI P)] σ 0 0 (am_q (.ref g) σ) := by
  have b7 := wf_np7 hA
  have b8 := wf_nq8 hA
  have b6 := wf_nt6 hA
  have b61 := wf_nt1 hA
  have b160 := wf_tp160 hA
  have brl := wf_rlt hA
  refine am_of moX6_personAt (Nat.le_of_ble_eq_true rfl) ?_
  show am_Ev G mX6_personAt (am_R D 0 0) 0 0 (am_q (.ref g) σ) 0 [(0, .ref 32), (1, .int (nI P))] [] σ 0 0
  refine ev_iload_n dX6_personAt_0 rfl rfl ?_
  refine ev_if_lt (tgt := 27) dX6_personAt_1 (by decide) (fun c => absurd c (nI_pos (by omega))) (fun _ => ?_)
  refine ev_iload_n dX6_personAt_4 rfl rfl ?_
  refine ev_aload_n dX6_personAt_5 rfl rfl ?_
  refine ev_getI (v := nI (s_np A)) dX6_personAt_6 fl_X6_85 (ly_k hX.ly 32 rfl) (hX.f12.trans (wf_np hA)) ?_
  refine ev_icmp_ge (tgt := 27) dX6_personAt_9 (by decide) (fun c => absurd c (Int32.not_le.mpr (nI_lt (by omega) (by omega)))) (fun _ => ?_)
  refine ev_iload_n dX6_personAt_12 rfl rfl ?_
  refine ev_bipush (v := 7) dX6_personAt_13 (by decide) ?_
  refine ev_icmp_ge (tgt := 27) dX6_personAt_15 (by decide) (fun c => absurd c (Int32.not_le.mpr (nI_lt (a := P) (b := 7) (by omega) (by decide)))) (fun _ => ?_)
  refine ev_aload_n dX6_personAt_18 rfl rfl ?_
  refine ev_getR (b := 33) dX6_personAt_19 fl_X6_11 (ly_k hX.ly 32 rfl) (ly_r hX.ly 0 rfl) ?_
  refine ev_iload_n dX6_personAt_22 rfl rfl ?_
  refine ev_aald (r := (some g)) dX6_personAt_23 (ly_k hX.ly 33 rfl) (by decide) (am_ixn (by omega) (by decide)) hg ?_
  refine ev_goto (tgt := 28) dX6_personAt_24 (by decide) ?_
  refine ev_reta dX6_personAt_28 rfl (Nat.zero_le _) (Nat.zero_le _) ?_
  exact ⟨rfl, rfl⟩

set_option maxHeartbeats 400000 in
set_option maxRecDepth 100000 in
theorem c_X6_sheetAt (G : am_G) (D : Nat) (A : am_S) (σ : am_M) (hX : iv_X A σ) (p : Int32) : am_Mt G D mX6_sheetAt [.ref 32, .int p] σ 0 0 (am_qS1 σ p) := by
  refine am_of moX6_sheetAt (Nat.le_of_ble_eq_true rfl) ?_
  show am_Ev G mX6_sheetAt (am_R D 0 0) 0 0 (am_qS1 σ p) 0 [(0, .ref 32), (1, .int p)] [] σ 0 0
  refine ev_iload_n dX6_sheetAt_0 rfl rfl ?_
  refine ev_if_lt (tgt := 18) dX6_sheetAt_1 (by decide) (fun c1 => ?_) (fun c1 => ?_)
  · skip
    refine ev_null dX6_sheetAt_18 ?_
    refine ev_retaN dX6_sheetAt_19 rfl (Nat.zero_le _) (Nat.zero_le _) ?_
    exact Or.inr ⟨am_rgn (by decide) c1, rfl, rfl⟩
  · skip
    refine ev_iload_n dX6_sheetAt_4 rfl rfl ?_
    refine ev_iconst (v := 4) dX6_sheetAt_5 (by decide) ?_
    refine ev_icmp_ge (tgt := 18) dX6_sheetAt_6 (by decide) (fun c2 => ?_) (fun c2 => ?_)
    · skip
      refine ev_null dX6_sheetAt_18 ?_
      refine ev_retaN dX6_sheetAt_19 rfl (Nat.zero_le _) (Nat.zero_le _) ?_
      exact Or.inr ⟨am_rgm (by decide) c2, rfl, rfl⟩
    · skip
      obtain ⟨S, hS, rfl⟩ : am_rg p 4 := am_rg2 (by decide) c1 c2
      refine ev_aload_n dX6_sheetAt_9 rfl rfl ?_
      refine ev_getR (b := 41) dX6_sheetAt_10 fl_X6_41 (ly_k hX.ly 32 rfl) (ly_r hX.ly 6 rfl) ?_
      refine ev_iload_n dX6_sheetAt_13 rfl rfl ?_
      refine ev_aald (r := (some (42 + 2 * S))) dX6_sheetAt_14 (ly_k hX.ly 41 rfl) (by decide) (am_ixn (by omega) (by decide)) (ly_s hX.ly hS).1 ?_
      refine ev_goto (tgt := 19) dX6_sheetAt_15 (by decide) ?_
      refine ev_reta dX6_sheetAt_19 rfl (Nat.zero_le _) (Nat.zero_le _) ?_
      exact Or.inl ⟨S, rfl, hS, rfl, rfl⟩

set_option maxHeartbeats 400000 in
set_option maxRecDepth 100000 in
theorem c_X6_sheetAtN (G : am_G) (D : Nat) (A : am_S) (σ : am_M) (hX : iv_X A σ) (S : Nat) (hS : S < 4) : am_Mt G D mX6_sheetAt [.ref 32, .int (nI S)] σ 0 0 (am_q (.ref (42 + 2 * S)) σ) := by
  refine am_of moX6_sheetAt (Nat.le_of_ble_eq_true rfl) ?_
  show am_Ev G mX6_sheetAt (am_R D 0 0) 0 0 (am_q (.ref (42 + 2 * S)) σ) 0 [(0, .ref 32), (1, .int (nI S))] [] σ 0 0
  refine ev_iload_n dX6_sheetAt_0 rfl rfl ?_
  refine ev_if_lt (tgt := 18) dX6_sheetAt_1 (by decide) (fun c => absurd c (nI_pos (by omega))) (fun _ => ?_)
  refine ev_iload_n dX6_sheetAt_4 rfl rfl ?_
  refine ev_iconst (v := 4) dX6_sheetAt_5 (by decide) ?_
  refine ev_icmp_ge (tgt := 18) dX6_sheetAt_6 (by decide) (fun c => absurd c (Int32.not_le.mpr (nI_lt (a := S) (b := 4) (by omega) (by decide)))) (fun _ => ?_)
  refine ev_aload_n dX6_sheetAt_9 rfl rfl ?_
  refine ev_getR (b := 41) dX6_sheetAt_10 fl_X6_41 (ly_k hX.ly 32 rfl) (ly_r hX.ly 6 rfl) ?_
  refine ev_iload_n dX6_sheetAt_13 rfl rfl ?_
  refine ev_aald (r := (some (42 + 2 * S))) dX6_sheetAt_14 (ly_k hX.ly 41 rfl) (by decide) (am_ixn (by omega) (by decide)) (ly_s hX.ly hS).1 ?_
  refine ev_goto (tgt := 19) dX6_sheetAt_15 (by decide) ?_
  refine ev_reta dX6_sheetAt_19 rfl (Nat.zero_le _) (Nat.zero_le _) ?_
  exact ⟨rfl, rfl⟩

set_option maxHeartbeats 400000 in
set_option maxRecDepth 100000 in
theorem c_X6_lawText (G : am_G) (D : Nat) (A : am_S) (σ : am_M) (hA : wf_A A) (hX : iv_X A σ) (x : Nat) (hx : σ.2.2 37 (s_rl A) = some x) : am_Mt G D mX6_lawText [.ref 32] σ 0 0 (am_q (.ref x) σ) := by
  have b7 := wf_np7 hA
  have b8 := wf_nq8 hA
  have b6 := wf_nt6 hA
  have b61 := wf_nt1 hA
  have b160 := wf_tp160 hA
  have brl := wf_rlt hA
  refine am_of moX6_lawText (Nat.le_of_ble_eq_true rfl) ?_
  show am_Ev G mX6_lawText (am_R D 0 0) 0 0 (am_q (.ref x) σ) 0 [(0, .ref 32)] [] σ 0 0
  refine ev_aload_n dX6_lawText_0 rfl rfl ?_
  refine ev_getI (v := nI (s_rl A)) dX6_lawText_1 fl_X6_91 (ly_k hX.ly 32 rfl) (hX.f15.trans (wf_rl hA)) ?_
  refine ev_if_lt (tgt := 28) dX6_lawText_4 (by decide) (fun c => absurd c (nI_pos (by omega))) (fun _ => ?_)
  refine ev_aload_n dX6_lawText_7 rfl rfl ?_
  refine ev_getI (v := nI (s_rl A)) dX6_lawText_8 fl_X6_91 (ly_k hX.ly 32 rfl) (hX.f15.trans (wf_rl hA)) ?_
  refine ev_bipush (v := 6) dX6_lawText_11 (by decide) ?_
  refine ev_icmp_ge (tgt := 28) dX6_lawText_13 (by decide) (fun c => absurd c (Int32.not_le.mpr (nI_lt (a := s_rl A) (b := 6) (by omega) (by decide)))) (fun _ => ?_)
  refine ev_aload_n dX6_lawText_16 rfl rfl ?_
  refine ev_getR (b := 37) dX6_lawText_17 fl_X6_27 (ly_k hX.ly 32 rfl) (ly_r hX.ly 4 rfl) ?_
  refine ev_aload_n dX6_lawText_20 rfl rfl ?_
  refine ev_getI (v := nI (s_rl A)) dX6_lawText_21 fl_X6_91 (ly_k hX.ly 32 rfl) (hX.f15.trans (wf_rl hA)) ?_
  refine ev_aald (r := (some x)) dX6_lawText_24 (ly_k hX.ly 37 rfl) (by decide) (am_ixn (by omega) (by decide)) hx ?_
  refine ev_goto (tgt := 29) dX6_lawText_25 (by decide) ?_
  refine ev_reta dX6_lawText_29 rfl (Nat.zero_le _) (Nat.zero_le _) ?_
  exact ⟨rfl, rfl⟩

set_option maxHeartbeats 400000 in
set_option maxRecDepth 100000 in
theorem c_X6_isQuestion (G : am_G) (D : Nat) (A : am_S) (σ : am_M) (hA : wf_A A) (hX : iv_X A σ) (p : Int32) : am_Mt G D mX6_isQuestion [.ref 32, .int p] σ 0 0 (am_zq (am_rg p (s_nq A)) σ) := by
  have b7 := wf_np7 hA
  have b8 := wf_nq8 hA
  have b6 := wf_nt6 hA
  have b61 := wf_nt1 hA
  have b160 := wf_tp160 hA
  have brl := wf_rlt hA
  refine am_of moX6_isQuestion (Nat.le_of_ble_eq_true rfl) ?_
  show am_Ev G mX6_isQuestion (am_R D 0 0) 0 0 (am_zq (am_rg p (s_nq A)) σ) 0 [(0, .ref 32), (1, .int p)] [] σ 0 0
  refine ev_iload_n dX6_isQuestion_0 rfl rfl ?_
  refine ev_if_lt (tgt := 22) dX6_isQuestion_1 (by decide) (fun c1 => ?_) (fun c1 => ?_)
  · skip
    refine ev_iconst (v := 0) dX6_isQuestion_22 (by decide) ?_
    refine ev_retz dX6_isQuestion_23 rfl (Or.inl rfl) (Nat.zero_le _) (Nat.zero_le _) ?_
    exact Or.inr ⟨am_rgn (by omega) c1, rfl, rfl⟩
  · skip
    refine ev_iload_n dX6_isQuestion_4 rfl rfl ?_
    refine ev_aload_n dX6_isQuestion_5 rfl rfl ?_
    refine ev_getI (v := nI (s_nq A)) dX6_isQuestion_6 fl_X6_88 (ly_k hX.ly 32 rfl) (hX.f13.trans (wf_nq hA)) ?_
    refine ev_icmp_ge (tgt := 22) dX6_isQuestion_9 (by decide) (fun c2 => ?_) (fun c2 => ?_)
    · skip
      refine ev_iconst (v := 0) dX6_isQuestion_22 (by decide) ?_
      refine ev_retz dX6_isQuestion_23 rfl (Or.inl rfl) (Nat.zero_le _) (Nat.zero_le _) ?_
      exact Or.inr ⟨am_rgm (nI_toInt (by omega)) c2, rfl, rfl⟩
    · skip
      refine ev_iload_n dX6_isQuestion_12 rfl rfl ?_
      refine ev_bipush (v := 8) dX6_isQuestion_13 (by decide) ?_
      refine ev_icmp_ge (tgt := 22) dX6_isQuestion_15 (by decide) (fun c3 => ?_) (fun c3 => ?_)
      · skip
        refine ev_iconst (v := 0) dX6_isQuestion_22 (by decide) ?_
        refine ev_retz dX6_isQuestion_23 rfl (Or.inl rfl) (Nat.zero_le _) (Nat.zero_le _) ?_
        exact absurd c3 (by obtain ⟨Q, hQ, rfl⟩ := am_rg2 (nI_toInt (by omega)) c1 c2; exact Int32.not_le.mpr (nI_lt (a := Q) (b := 8) (by omega) (by decide)))
      · skip
        refine ev_iconst (v := 1) dX6_isQuestion_18 (by decide) ?_
        refine ev_goto (tgt := 23) dX6_isQuestion_19 (by decide) ?_
        refine ev_retz dX6_isQuestion_23 rfl (Or.inr rfl) (Nat.zero_le _) (Nat.zero_le _) ?_
        exact Or.inl ⟨am_rg2 (nI_toInt (by omega)) c1 c2, rfl, rfl⟩

set_option maxHeartbeats 400000 in
set_option maxRecDepth 100000 in
theorem c_X1_deepAtN (G : am_G) (D : Nat) (A : am_S) (σ : am_M) (hA : wf_A A) (hX : iv_X A σ) (P g : Nat) (hP : P < s_np A) (hg : σ.2.2 33 P = some g) (J : Nat) (hJ : J < 4) : am_Mt G (D + 1) mX1_deepAt [.ref g, .int (nI J)] σ 0 0 (am_q (.int (A 70 (4 * P + J))) σ) := by
  have b7 := wf_np7 hA
  have b8 := wf_nq8 hA
  have b6 := wf_nt6 hA
  have b61 := wf_nt1 hA
  have b160 := wf_tp160 hA
  have brl := wf_rlt hA
  refine am_of moX1_deepAt (Nat.le_of_ble_eq_true rfl) ?_
  show am_Ev G mX1_deepAt (am_R (D + 1) 0 0) 0 0 (am_q (.int (A 70 (4 * P + J))) σ) 0 [(0, .ref g), (1, .int (nI J))] [] σ 0 0
  refine ev_iload_n dX1_deepAt_0 rfl rfl ?_
  refine ev_callSN (as := [.int (nI J)]) (st := []) dX1_deepAt_1 mfX6_isTopic lk_X1_31 (c_X6_isTopic G D σ (nI J)) rfl rfl (Nat.le_of_ble_eq_true rfl) (am_hR (by omega) (by decide)) ⟨Nat.le_refl _, Nat.le_refl _⟩ ?_
  rintro _ _ (⟨-, rfl, rfl⟩ | ⟨hn, rfl, rfl⟩)
  · skip
    refine ev_if_eq (tgt := 16) dX1_deepAt_4 (by decide) (fun c => absurd c (by decide)) (fun _ => ?_)
    refine ev_aload_n dX1_deepAt_7 rfl rfl ?_
    refine ev_getR (b := (g + 1)) dX1_deepAt_8 fl_X1_9 (hX.gk hP hg) (hX.gd hP hg) ?_
    refine ev_iload_n dX1_deepAt_11 rfl rfl ?_
    refine ev_iald (v := A 70 (4 * P + J)) dX1_deepAt_12 (hX.gl hP hg) (am_ixn (by omega) (by decide)) (hX.gj hP hg (by omega)) ?_
    refine ev_goto (tgt := 17) dX1_deepAt_13 (by decide) ?_
    refine ev_reti dX1_deepAt_17 rfl (Nat.zero_le _) (Nat.zero_le _) ?_
    exact ⟨rfl, rfl⟩
  · skip
    exact absurd ⟨J, hJ, rfl⟩ hn

set_option maxHeartbeats 400000 in
set_option maxRecDepth 100000 in
theorem c_X1_becomeDeepN (G : am_G) (D : Nat) (A : am_S) (σ : am_M) (hA : wf_A A) (hX : iv_X A σ) (P g : Nat) (hP : P < s_np A) (hg : σ.2.2 33 P = some g) (J : Nat) (hJ : J < 4) (v : Int32) : am_Mt G (D + 2) mX1_becomeDeep [.ref g, .int (nI J), .int v] σ 0 0 (am_qv (am_sI σ (g + 1) J (am_bd v 0 9))) := by
  have b7 := wf_np7 hA
  have b8 := wf_nq8 hA
  have b6 := wf_nt6 hA
  have b61 := wf_nt1 hA
  have b160 := wf_tp160 hA
  have brl := wf_rlt hA
  refine am_of moX1_becomeDeep (Nat.le_of_ble_eq_true rfl) ?_
  show am_Ev G mX1_becomeDeep (am_R (D + 2) 0 0) 0 0 (am_qv (am_sI σ (g + 1) J (am_bd v 0 9))) 0 [(0, .ref g), (1, .int (nI J)), (2, .int v)] [] σ 0 0
  refine ev_iload_n dX1_becomeDeep_0 rfl rfl ?_
  refine ev_callSN (as := [.int (nI J)]) (st := []) dX1_becomeDeep_1 mfX6_isTopic lk_X1_31 (c_X6_isTopic G (D + 1) σ (nI J)) rfl rfl (Nat.le_of_ble_eq_true rfl) (am_hR (by omega) (by decide)) ⟨Nat.le_refl _, Nat.le_refl _⟩ ?_
  rintro _ _ (⟨-, rfl, rfl⟩ | ⟨hn, rfl, rfl⟩)
  · skip
    refine ev_if_eq (tgt := 20) dX1_becomeDeep_4 (by decide) (fun c => absurd c (by decide)) (fun _ => ?_)
    refine ev_aload_n dX1_becomeDeep_7 rfl rfl ?_
    refine ev_getR (b := (g + 1)) dX1_becomeDeep_8 fl_X1_9 (hX.gk hP hg) (hX.gd hP hg) ?_
    refine ev_iload_n dX1_becomeDeep_11 rfl rfl ?_
    refine ev_iload_n dX1_becomeDeep_12 rfl rfl ?_
    refine ev_iconst (v := 0) dX1_becomeDeep_13 (by decide) ?_
    refine ev_bipush (v := 9) dX1_becomeDeep_14 (by decide) ?_
    refine ev_callSN (as := [.int v, .int 0, .int 9]) (st := [.int (nI J), .ref (g + 1)]) dX1_becomeDeep_16 mfX6_bounded lk_X1_35 (c_X6_bounded G D σ v 0 9 (by decide)) rfl rfl (Nat.le_of_ble_eq_true rfl) (am_hR (by omega) (by decide)) ⟨Nat.le_refl _, Nat.le_refl _⟩ ?_
    rintro _ _ ⟨rfl, rfl⟩
    refine ev_iast dX1_becomeDeep_19 (hX.gl hP hg) (am_ixn (by omega) (by decide)) ?_
    refine ev_retv dX1_becomeDeep_20 rfl (Nat.zero_le _) (Nat.zero_le _) ?_
    exact ⟨rfl, rfl⟩
  · skip
    exact absurd ⟨J, hJ, rfl⟩ hn

theorem s_unI {k w : Int32} : s_un k w = true ↔ (w = 0 ∨ k = w ∨ (w = 1 ∧ k = 3) ∨ (w = 2 ∧ k = 4)) := by unfold s_un; rw [decide_eq_true_iff]
set_option maxHeartbeats 400000 in
set_option maxRecDepth 100000 in
theorem c_X1_isOf (G : am_G) (D : Nat) (A : am_S) (σ : am_M) (hA : wf_A A) (hX : iv_X A σ) (P g : Nat) (hP : P < s_np A) (hg : σ.2.2 33 P = some g) (w k v : Int32) (hk : A 66 P = k) (hv : s_b2 (s_un k w) = v) : am_Mt G D mX1_isOf [.ref g, .int w] σ 0 0 (am_q (.int v) σ) := by
  have b7 := wf_np7 hA
  have b8 := wf_nq8 hA
  have b6 := wf_nt6 hA
  have b61 := wf_nt1 hA
  have b160 := wf_tp160 hA
  have brl := wf_rlt hA
  refine am_of moX1_isOf (Nat.le_of_ble_eq_true rfl) ?_
  show am_Ev G mX1_isOf (am_R D 0 0) 0 0 (am_q (.int v) σ) 0 [(0, .ref g), (1, .int w)] [] σ 0 0
  obtain ⟨⟨K, hK, eK⟩, -⟩ := wf_pp hA P hP
  rcases (show K = 0 ∨ K = 1 ∨ K = 2 ∨ K = 3 ∨ K = 4 ∨ K = 5 by omega) with rfl | rfl | rfl | rfl | rfl | rfl
  · skip
    replace eK : A 66 P = 0 := eK
    refine ev_aload_n dX1_isOf_0 rfl rfl ?_
    refine ev_getI (v := 0) dX1_isOf_1 fl_X1_15 (hX.gk hP hg) ((hX.g0 hP hg).trans eK) ?_
    refine ev_istore_n (lv' := [(0, .ref g), (1, .int w), (2, .int 0)]) dX1_isOf_4 rfl (by decide) rfl ?_
    refine ev_iconst (v := 0) dX1_isOf_5 (by decide) ?_
    refine ev_istore_n (lv' := [(0, .ref g), (1, .int w), (2, .int 0), (3, .int 0)]) dX1_isOf_6 rfl (by decide) rfl ?_
    refine ev_iload_n dX1_isOf_7 rfl rfl ?_
    refine ev_bipush (v := 6) dX1_isOf_8 (by decide) ?_
    refine ev_icmp_ge (tgt := 42) dX1_isOf_10 (by decide) (fun c => absurd c (by decide)) (fun _ => ?_)
    refine ev_iload_n dX1_isOf_13 rfl rfl ?_
    refine ev_if_lt (tgt := 42) dX1_isOf_14 (by decide) (fun c => absurd c (by decide)) (fun _ => ?_)
    refine ev_iload_n dX1_isOf_17 rfl rfl ?_
    refine ev_bipush (v := 6) dX1_isOf_18 (by decide) ?_
    refine ev_icmp_ge (tgt := 42) dX1_isOf_20 (by decide) (fun c => absurd c (by decide)) (fun _ => ?_)
    refine ev_iload_n dX1_isOf_23 rfl rfl ?_
    refine ev_iload_n dX1_isOf_24 rfl rfl ?_
    refine ev_icmp_ne (tgt := 30) dX1_isOf_25 (by decide) (fun c1 => ?_) (fun c1 => ?_)
    · skip
      refine ev_ka rfl dX1_isOf_30 ?_
      refine ev_iload_n dX1_isOf_33 rfl rfl ?_
      refine ev_kald (v := (-1)) dX1_isOf_34 (am_ixn (j := 0) (by decide) (by decide)) rfl ?_
      refine ev_istore_n (lv' := [(0, .ref g), (1, .int w), (2, .int (-1)), (3, .int 0)]) dX1_isOf_35 rfl (by decide) rfl ?_
      refine ev_iinc (lv' := [(0, .ref g), (1, .int w), (2, .int (-1)), (3, .int 1)]) (v := 1) dX1_isOf_36 rfl (by decide) (by decide) rfl ?_
      refine ev_goto (tgt := 7) dX1_isOf_39 (by decide) ?_
      refine ev_iload_n dX1_isOf_7 rfl rfl ?_
      refine ev_bipush (v := 6) dX1_isOf_8 (by decide) ?_
      refine ev_icmp_ge (tgt := 42) dX1_isOf_10 (by decide) (fun c => absurd c (by decide)) (fun _ => ?_)
      refine ev_iload_n dX1_isOf_13 rfl rfl ?_
      refine ev_if_lt (tgt := 42) dX1_isOf_14 (by decide) (fun _ => ?_) (fun c => absurd (by decide) c)
      refine ev_iconst (v := 0) dX1_isOf_42 (by decide) ?_
      refine ev_retz dX1_isOf_43 rfl (Or.inl rfl) (Nat.zero_le _) (Nat.zero_le _) ?_
      have e : s_un 0 w = false := by
        cases hz : s_un 0 w with
        | false => rfl
        | true =>
          exfalso
          rcases s_unI.mp hz with q | q | ⟨q, r⟩ | ⟨q, r⟩
          · subst q; exact absurd rfl c1
          · subst q; exact absurd rfl c1
          · exact absurd r (by decide)
          · exact absurd r (by decide)
      exact ⟨by rw [← hv, ← hk, eK, e]; rfl, rfl⟩
    · skip
      refine ev_iconst (v := 1) dX1_isOf_28 (by decide) ?_
      refine ev_retz dX1_isOf_29 rfl (Or.inr rfl) (Nat.zero_le _) (Nat.zero_le _) ?_
      have e : s_un 0 w = true := by
        subst c1
        decide
      exact ⟨by rw [← hv, ← hk, eK, e]; rfl, rfl⟩
  · skip
    replace eK : A 66 P = 1 := eK
    refine ev_aload_n dX1_isOf_0 rfl rfl ?_
    refine ev_getI (v := 1) dX1_isOf_1 fl_X1_15 (hX.gk hP hg) ((hX.g0 hP hg).trans eK) ?_
    refine ev_istore_n (lv' := [(0, .ref g), (1, .int w), (2, .int 1)]) dX1_isOf_4 rfl (by decide) rfl ?_
    refine ev_iconst (v := 0) dX1_isOf_5 (by decide) ?_
    refine ev_istore_n (lv' := [(0, .ref g), (1, .int w), (2, .int 1), (3, .int 0)]) dX1_isOf_6 rfl (by decide) rfl ?_
    refine ev_iload_n dX1_isOf_7 rfl rfl ?_
    refine ev_bipush (v := 6) dX1_isOf_8 (by decide) ?_
    refine ev_icmp_ge (tgt := 42) dX1_isOf_10 (by decide) (fun c => absurd c (by decide)) (fun _ => ?_)
    refine ev_iload_n dX1_isOf_13 rfl rfl ?_
    refine ev_if_lt (tgt := 42) dX1_isOf_14 (by decide) (fun c => absurd c (by decide)) (fun _ => ?_)
    refine ev_iload_n dX1_isOf_17 rfl rfl ?_
    refine ev_bipush (v := 6) dX1_isOf_18 (by decide) ?_
    refine ev_icmp_ge (tgt := 42) dX1_isOf_20 (by decide) (fun c => absurd c (by decide)) (fun _ => ?_)
    refine ev_iload_n dX1_isOf_23 rfl rfl ?_
    refine ev_iload_n dX1_isOf_24 rfl rfl ?_
    refine ev_icmp_ne (tgt := 30) dX1_isOf_25 (by decide) (fun c2 => ?_) (fun c2 => ?_)
    · skip
      refine ev_ka rfl dX1_isOf_30 ?_
      refine ev_iload_n dX1_isOf_33 rfl rfl ?_
      refine ev_kald (v := 0) dX1_isOf_34 (am_ixn (j := 1) (by decide) (by decide)) rfl ?_
      refine ev_istore_n (lv' := [(0, .ref g), (1, .int w), (2, .int 0), (3, .int 0)]) dX1_isOf_35 rfl (by decide) rfl ?_
      refine ev_iinc (lv' := [(0, .ref g), (1, .int w), (2, .int 0), (3, .int 1)]) (v := 1) dX1_isOf_36 rfl (by decide) (by decide) rfl ?_
      refine ev_goto (tgt := 7) dX1_isOf_39 (by decide) ?_
      refine ev_iload_n dX1_isOf_7 rfl rfl ?_
      refine ev_bipush (v := 6) dX1_isOf_8 (by decide) ?_
      refine ev_icmp_ge (tgt := 42) dX1_isOf_10 (by decide) (fun c => absurd c (by decide)) (fun _ => ?_)
      refine ev_iload_n dX1_isOf_13 rfl rfl ?_
      refine ev_if_lt (tgt := 42) dX1_isOf_14 (by decide) (fun c => absurd c (by decide)) (fun _ => ?_)
      refine ev_iload_n dX1_isOf_17 rfl rfl ?_
      refine ev_bipush (v := 6) dX1_isOf_18 (by decide) ?_
      refine ev_icmp_ge (tgt := 42) dX1_isOf_20 (by decide) (fun c => absurd c (by decide)) (fun _ => ?_)
      refine ev_iload_n dX1_isOf_23 rfl rfl ?_
      refine ev_iload_n dX1_isOf_24 rfl rfl ?_
      refine ev_icmp_ne (tgt := 30) dX1_isOf_25 (by decide) (fun c3 => ?_) (fun c3 => ?_)
      · skip
        refine ev_ka rfl dX1_isOf_30 ?_
        refine ev_iload_n dX1_isOf_33 rfl rfl ?_
        refine ev_kald (v := (-1)) dX1_isOf_34 (am_ixn (j := 0) (by decide) (by decide)) rfl ?_
        refine ev_istore_n (lv' := [(0, .ref g), (1, .int w), (2, .int (-1)), (3, .int 1)]) dX1_isOf_35 rfl (by decide) rfl ?_
        refine ev_iinc (lv' := [(0, .ref g), (1, .int w), (2, .int (-1)), (3, .int 2)]) (v := 2) dX1_isOf_36 rfl (by decide) (by decide) rfl ?_
        refine ev_goto (tgt := 7) dX1_isOf_39 (by decide) ?_
        refine ev_iload_n dX1_isOf_7 rfl rfl ?_
        refine ev_bipush (v := 6) dX1_isOf_8 (by decide) ?_
        refine ev_icmp_ge (tgt := 42) dX1_isOf_10 (by decide) (fun c => absurd c (by decide)) (fun _ => ?_)
        refine ev_iload_n dX1_isOf_13 rfl rfl ?_
        refine ev_if_lt (tgt := 42) dX1_isOf_14 (by decide) (fun _ => ?_) (fun c => absurd (by decide) c)
        refine ev_iconst (v := 0) dX1_isOf_42 (by decide) ?_
        refine ev_retz dX1_isOf_43 rfl (Or.inl rfl) (Nat.zero_le _) (Nat.zero_le _) ?_
        have e : s_un 1 w = false := by
          cases hz : s_un 1 w with
          | false => rfl
          | true =>
            exfalso
            rcases s_unI.mp hz with q | q | ⟨q, r⟩ | ⟨q, r⟩
            · subst q; exact absurd rfl c3
            · subst q; exact absurd rfl c2
            · exact absurd r (by decide)
            · exact absurd r (by decide)
        exact ⟨by rw [← hv, ← hk, eK, e]; rfl, rfl⟩
      · skip
        refine ev_iconst (v := 1) dX1_isOf_28 (by decide) ?_
        refine ev_retz dX1_isOf_29 rfl (Or.inr rfl) (Nat.zero_le _) (Nat.zero_le _) ?_
        have e : s_un 1 w = true := by
          subst c3
          decide
        exact ⟨by rw [← hv, ← hk, eK, e]; rfl, rfl⟩
    · skip
      refine ev_iconst (v := 1) dX1_isOf_28 (by decide) ?_
      refine ev_retz dX1_isOf_29 rfl (Or.inr rfl) (Nat.zero_le _) (Nat.zero_le _) ?_
      have e : s_un 1 w = true := by
        subst c2
        decide
      exact ⟨by rw [← hv, ← hk, eK, e]; rfl, rfl⟩
  · skip
    replace eK : A 66 P = 2 := eK
    refine ev_aload_n dX1_isOf_0 rfl rfl ?_
    refine ev_getI (v := 2) dX1_isOf_1 fl_X1_15 (hX.gk hP hg) ((hX.g0 hP hg).trans eK) ?_
    refine ev_istore_n (lv' := [(0, .ref g), (1, .int w), (2, .int 2)]) dX1_isOf_4 rfl (by decide) rfl ?_
    refine ev_iconst (v := 0) dX1_isOf_5 (by decide) ?_
    refine ev_istore_n (lv' := [(0, .ref g), (1, .int w), (2, .int 2), (3, .int 0)]) dX1_isOf_6 rfl (by decide) rfl ?_
    refine ev_iload_n dX1_isOf_7 rfl rfl ?_
    refine ev_bipush (v := 6) dX1_isOf_8 (by decide) ?_
    refine ev_icmp_ge (tgt := 42) dX1_isOf_10 (by decide) (fun c => absurd c (by decide)) (fun _ => ?_)
    refine ev_iload_n dX1_isOf_13 rfl rfl ?_
    refine ev_if_lt (tgt := 42) dX1_isOf_14 (by decide) (fun c => absurd c (by decide)) (fun _ => ?_)
    refine ev_iload_n dX1_isOf_17 rfl rfl ?_
    refine ev_bipush (v := 6) dX1_isOf_18 (by decide) ?_
    refine ev_icmp_ge (tgt := 42) dX1_isOf_20 (by decide) (fun c => absurd c (by decide)) (fun _ => ?_)
    refine ev_iload_n dX1_isOf_23 rfl rfl ?_
    refine ev_iload_n dX1_isOf_24 rfl rfl ?_
    refine ev_icmp_ne (tgt := 30) dX1_isOf_25 (by decide) (fun c4 => ?_) (fun c4 => ?_)
    · skip
      refine ev_ka rfl dX1_isOf_30 ?_
      refine ev_iload_n dX1_isOf_33 rfl rfl ?_
      refine ev_kald (v := 0) dX1_isOf_34 (am_ixn (j := 2) (by decide) (by decide)) rfl ?_
      refine ev_istore_n (lv' := [(0, .ref g), (1, .int w), (2, .int 0), (3, .int 0)]) dX1_isOf_35 rfl (by decide) rfl ?_
      refine ev_iinc (lv' := [(0, .ref g), (1, .int w), (2, .int 0), (3, .int 1)]) (v := 1) dX1_isOf_36 rfl (by decide) (by decide) rfl ?_
      refine ev_goto (tgt := 7) dX1_isOf_39 (by decide) ?_
      refine ev_iload_n dX1_isOf_7 rfl rfl ?_
      refine ev_bipush (v := 6) dX1_isOf_8 (by decide) ?_
      refine ev_icmp_ge (tgt := 42) dX1_isOf_10 (by decide) (fun c => absurd c (by decide)) (fun _ => ?_)
      refine ev_iload_n dX1_isOf_13 rfl rfl ?_
      refine ev_if_lt (tgt := 42) dX1_isOf_14 (by decide) (fun c => absurd c (by decide)) (fun _ => ?_)
      refine ev_iload_n dX1_isOf_17 rfl rfl ?_
      refine ev_bipush (v := 6) dX1_isOf_18 (by decide) ?_
      refine ev_icmp_ge (tgt := 42) dX1_isOf_20 (by decide) (fun c => absurd c (by decide)) (fun _ => ?_)
      refine ev_iload_n dX1_isOf_23 rfl rfl ?_
      refine ev_iload_n dX1_isOf_24 rfl rfl ?_
      refine ev_icmp_ne (tgt := 30) dX1_isOf_25 (by decide) (fun c5 => ?_) (fun c5 => ?_)
      · skip
        refine ev_ka rfl dX1_isOf_30 ?_
        refine ev_iload_n dX1_isOf_33 rfl rfl ?_
        refine ev_kald (v := (-1)) dX1_isOf_34 (am_ixn (j := 0) (by decide) (by decide)) rfl ?_
        refine ev_istore_n (lv' := [(0, .ref g), (1, .int w), (2, .int (-1)), (3, .int 1)]) dX1_isOf_35 rfl (by decide) rfl ?_
        refine ev_iinc (lv' := [(0, .ref g), (1, .int w), (2, .int (-1)), (3, .int 2)]) (v := 2) dX1_isOf_36 rfl (by decide) (by decide) rfl ?_
        refine ev_goto (tgt := 7) dX1_isOf_39 (by decide) ?_
        refine ev_iload_n dX1_isOf_7 rfl rfl ?_
        refine ev_bipush (v := 6) dX1_isOf_8 (by decide) ?_
        refine ev_icmp_ge (tgt := 42) dX1_isOf_10 (by decide) (fun c => absurd c (by decide)) (fun _ => ?_)
        refine ev_iload_n dX1_isOf_13 rfl rfl ?_
        refine ev_if_lt (tgt := 42) dX1_isOf_14 (by decide) (fun _ => ?_) (fun c => absurd (by decide) c)
        refine ev_iconst (v := 0) dX1_isOf_42 (by decide) ?_
        refine ev_retz dX1_isOf_43 rfl (Or.inl rfl) (Nat.zero_le _) (Nat.zero_le _) ?_
        have e : s_un 2 w = false := by
          cases hz : s_un 2 w with
          | false => rfl
          | true =>
            exfalso
            rcases s_unI.mp hz with q | q | ⟨q, r⟩ | ⟨q, r⟩
            · subst q; exact absurd rfl c5
            · subst q; exact absurd rfl c4
            · exact absurd r (by decide)
            · exact absurd r (by decide)
        exact ⟨by rw [← hv, ← hk, eK, e]; rfl, rfl⟩
      · skip
        refine ev_iconst (v := 1) dX1_isOf_28 (by decide) ?_
        refine ev_retz dX1_isOf_29 rfl (Or.inr rfl) (Nat.zero_le _) (Nat.zero_le _) ?_
        have e : s_un 2 w = true := by
          subst c5
          decide
        exact ⟨by rw [← hv, ← hk, eK, e]; rfl, rfl⟩
    · skip
      refine ev_iconst (v := 1) dX1_isOf_28 (by decide) ?_
      refine ev_retz dX1_isOf_29 rfl (Or.inr rfl) (Nat.zero_le _) (Nat.zero_le _) ?_
      have e : s_un 2 w = true := by
        subst c4
        decide
      exact ⟨by rw [← hv, ← hk, eK, e]; rfl, rfl⟩
  · skip
    replace eK : A 66 P = 3 := eK
    refine ev_aload_n dX1_isOf_0 rfl rfl ?_
    refine ev_getI (v := 3) dX1_isOf_1 fl_X1_15 (hX.gk hP hg) ((hX.g0 hP hg).trans eK) ?_
    refine ev_istore_n (lv' := [(0, .ref g), (1, .int w), (2, .int 3)]) dX1_isOf_4 rfl (by decide) rfl ?_
    refine ev_iconst (v := 0) dX1_isOf_5 (by decide) ?_
    refine ev_istore_n (lv' := [(0, .ref g), (1, .int w), (2, .int 3), (3, .int 0)]) dX1_isOf_6 rfl (by decide) rfl ?_
    refine ev_iload_n dX1_isOf_7 rfl rfl ?_
    refine ev_bipush (v := 6) dX1_isOf_8 (by decide) ?_
    refine ev_icmp_ge (tgt := 42) dX1_isOf_10 (by decide) (fun c => absurd c (by decide)) (fun _ => ?_)
    refine ev_iload_n dX1_isOf_13 rfl rfl ?_
    refine ev_if_lt (tgt := 42) dX1_isOf_14 (by decide) (fun c => absurd c (by decide)) (fun _ => ?_)
    refine ev_iload_n dX1_isOf_17 rfl rfl ?_
    refine ev_bipush (v := 6) dX1_isOf_18 (by decide) ?_
    refine ev_icmp_ge (tgt := 42) dX1_isOf_20 (by decide) (fun c => absurd c (by decide)) (fun _ => ?_)
    refine ev_iload_n dX1_isOf_23 rfl rfl ?_
    refine ev_iload_n dX1_isOf_24 rfl rfl ?_
    refine ev_icmp_ne (tgt := 30) dX1_isOf_25 (by decide) (fun c6 => ?_) (fun c6 => ?_)
    · skip
      refine ev_ka rfl dX1_isOf_30 ?_
      refine ev_iload_n dX1_isOf_33 rfl rfl ?_
      refine ev_kald (v := 1) dX1_isOf_34 (am_ixn (j := 3) (by decide) (by decide)) rfl ?_
      refine ev_istore_n (lv' := [(0, .ref g), (1, .int w), (2, .int 1), (3, .int 0)]) dX1_isOf_35 rfl (by decide) rfl ?_
      refine ev_iinc (lv' := [(0, .ref g), (1, .int w), (2, .int 1), (3, .int 1)]) (v := 1) dX1_isOf_36 rfl (by decide) (by decide) rfl ?_
      refine ev_goto (tgt := 7) dX1_isOf_39 (by decide) ?_
      refine ev_iload_n dX1_isOf_7 rfl rfl ?_
      refine ev_bipush (v := 6) dX1_isOf_8 (by decide) ?_
      refine ev_icmp_ge (tgt := 42) dX1_isOf_10 (by decide) (fun c => absurd c (by decide)) (fun _ => ?_)
      refine ev_iload_n dX1_isOf_13 rfl rfl ?_
      refine ev_if_lt (tgt := 42) dX1_isOf_14 (by decide) (fun c => absurd c (by decide)) (fun _ => ?_)
      refine ev_iload_n dX1_isOf_17 rfl rfl ?_
      refine ev_bipush (v := 6) dX1_isOf_18 (by decide) ?_
      refine ev_icmp_ge (tgt := 42) dX1_isOf_20 (by decide) (fun c => absurd c (by decide)) (fun _ => ?_)
      refine ev_iload_n dX1_isOf_23 rfl rfl ?_
      refine ev_iload_n dX1_isOf_24 rfl rfl ?_
      refine ev_icmp_ne (tgt := 30) dX1_isOf_25 (by decide) (fun c7 => ?_) (fun c7 => ?_)
      · skip
        refine ev_ka rfl dX1_isOf_30 ?_
        refine ev_iload_n dX1_isOf_33 rfl rfl ?_
        refine ev_kald (v := 0) dX1_isOf_34 (am_ixn (j := 1) (by decide) (by decide)) rfl ?_
        refine ev_istore_n (lv' := [(0, .ref g), (1, .int w), (2, .int 0), (3, .int 1)]) dX1_isOf_35 rfl (by decide) rfl ?_
        refine ev_iinc (lv' := [(0, .ref g), (1, .int w), (2, .int 0), (3, .int 2)]) (v := 2) dX1_isOf_36 rfl (by decide) (by decide) rfl ?_
        refine ev_goto (tgt := 7) dX1_isOf_39 (by decide) ?_
        refine ev_iload_n dX1_isOf_7 rfl rfl ?_
        refine ev_bipush (v := 6) dX1_isOf_8 (by decide) ?_
        refine ev_icmp_ge (tgt := 42) dX1_isOf_10 (by decide) (fun c => absurd c (by decide)) (fun _ => ?_)
        refine ev_iload_n dX1_isOf_13 rfl rfl ?_
        refine ev_if_lt (tgt := 42) dX1_isOf_14 (by decide) (fun c => absurd c (by decide)) (fun _ => ?_)
        refine ev_iload_n dX1_isOf_17 rfl rfl ?_
        refine ev_bipush (v := 6) dX1_isOf_18 (by decide) ?_
        refine ev_icmp_ge (tgt := 42) dX1_isOf_20 (by decide) (fun c => absurd c (by decide)) (fun _ => ?_)
        refine ev_iload_n dX1_isOf_23 rfl rfl ?_
        refine ev_iload_n dX1_isOf_24 rfl rfl ?_
        refine ev_icmp_ne (tgt := 30) dX1_isOf_25 (by decide) (fun c8 => ?_) (fun c8 => ?_)
        · skip
          refine ev_ka rfl dX1_isOf_30 ?_
          refine ev_iload_n dX1_isOf_33 rfl rfl ?_
          refine ev_kald (v := (-1)) dX1_isOf_34 (am_ixn (j := 0) (by decide) (by decide)) rfl ?_
          refine ev_istore_n (lv' := [(0, .ref g), (1, .int w), (2, .int (-1)), (3, .int 2)]) dX1_isOf_35 rfl (by decide) rfl ?_
          refine ev_iinc (lv' := [(0, .ref g), (1, .int w), (2, .int (-1)), (3, .int 3)]) (v := 3) dX1_isOf_36 rfl (by decide) (by decide) rfl ?_
          refine ev_goto (tgt := 7) dX1_isOf_39 (by decide) ?_
          refine ev_iload_n dX1_isOf_7 rfl rfl ?_
          refine ev_bipush (v := 6) dX1_isOf_8 (by decide) ?_
          refine ev_icmp_ge (tgt := 42) dX1_isOf_10 (by decide) (fun c => absurd c (by decide)) (fun _ => ?_)
          refine ev_iload_n dX1_isOf_13 rfl rfl ?_
          refine ev_if_lt (tgt := 42) dX1_isOf_14 (by decide) (fun _ => ?_) (fun c => absurd (by decide) c)
          refine ev_iconst (v := 0) dX1_isOf_42 (by decide) ?_
          refine ev_retz dX1_isOf_43 rfl (Or.inl rfl) (Nat.zero_le _) (Nat.zero_le _) ?_
          have e : s_un 3 w = false := by
            cases hz : s_un 3 w with
            | false => rfl
            | true =>
              exfalso
              rcases s_unI.mp hz with q | q | ⟨q, r⟩ | ⟨q, r⟩
              · subst q; exact absurd rfl c8
              · subst q; exact absurd rfl c6
              · subst q; exact absurd rfl c7
              · exact absurd r (by decide)
          exact ⟨by rw [← hv, ← hk, eK, e]; rfl, rfl⟩
        · skip
          refine ev_iconst (v := 1) dX1_isOf_28 (by decide) ?_
          refine ev_retz dX1_isOf_29 rfl (Or.inr rfl) (Nat.zero_le _) (Nat.zero_le _) ?_
          have e : s_un 3 w = true := by
            subst c8
            decide
          exact ⟨by rw [← hv, ← hk, eK, e]; rfl, rfl⟩
      · skip
        refine ev_iconst (v := 1) dX1_isOf_28 (by decide) ?_
        refine ev_retz dX1_isOf_29 rfl (Or.inr rfl) (Nat.zero_le _) (Nat.zero_le _) ?_
        have e : s_un 3 w = true := by
          subst c7
          decide
        exact ⟨by rw [← hv, ← hk, eK, e]; rfl, rfl⟩
    · skip
      refine ev_iconst (v := 1) dX1_isOf_28 (by decide) ?_
      refine ev_retz dX1_isOf_29 rfl (Or.inr rfl) (Nat.zero_le _) (Nat.zero_le _) ?_
      have e : s_un 3 w = true := by
        subst c6
        decide
      exact ⟨by rw [← hv, ← hk, eK, e]; rfl, rfl⟩
  · skip
    replace eK : A 66 P = 4 := eK
    refine ev_aload_n dX1_isOf_0 rfl rfl ?_
    refine ev_getI (v := 4) dX1_isOf_1 fl_X1_15 (hX.gk hP hg) ((hX.g0 hP hg).trans eK) ?_
    refine ev_istore_n (lv' := [(0, .ref g), (1, .int w), (2, .int 4)]) dX1_isOf_4 rfl (by decide) rfl ?_
    refine ev_iconst (v := 0) dX1_isOf_5 (by decide) ?_
    refine ev_istore_n (lv' := [(0, .ref g), (1, .int w), (2, .int 4), (3, .int 0)]) dX1_isOf_6 rfl (by decide) rfl ?_
    refine ev_iload_n dX1_isOf_7 rfl rfl ?_
    refine ev_bipush (v := 6) dX1_isOf_8 (by decide) ?_
    refine ev_icmp_ge (tgt := 42) dX1_isOf_10 (by decide) (fun c => absurd c (by decide)) (fun _ => ?_)
    refine ev_iload_n dX1_isOf_13 rfl rfl ?_
    refine ev_if_lt (tgt := 42) dX1_isOf_14 (by decide) (fun c => absurd c (by decide)) (fun _ => ?_)
    refine ev_iload_n dX1_isOf_17 rfl rfl ?_
    refine ev_bipush (v := 6) dX1_isOf_18 (by decide) ?_
    refine ev_icmp_ge (tgt := 42) dX1_isOf_20 (by decide) (fun c => absurd c (by decide)) (fun _ => ?_)
    refine ev_iload_n dX1_isOf_23 rfl rfl ?_
    refine ev_iload_n dX1_isOf_24 rfl rfl ?_
    refine ev_icmp_ne (tgt := 30) dX1_isOf_25 (by decide) (fun c9 => ?_) (fun c9 => ?_)
    · skip
      refine ev_ka rfl dX1_isOf_30 ?_
      refine ev_iload_n dX1_isOf_33 rfl rfl ?_
      refine ev_kald (v := 2) dX1_isOf_34 (am_ixn (j := 4) (by decide) (by decide)) rfl ?_
      refine ev_istore_n (lv' := [(0, .ref g), (1, .int w), (2, .int 2), (3, .int 0)]) dX1_isOf_35 rfl (by decide) rfl ?_
      refine ev_iinc (lv' := [(0, .ref g), (1, .int w), (2, .int 2), (3, .int 1)]) (v := 1) dX1_isOf_36 rfl (by decide) (by decide) rfl ?_
      refine ev_goto (tgt := 7) dX1_isOf_39 (by decide) ?_
      refine ev_iload_n dX1_isOf_7 rfl rfl ?_
      refine ev_bipush (v := 6) dX1_isOf_8 (by decide) ?_
      refine ev_icmp_ge (tgt := 42) dX1_isOf_10 (by decide) (fun c => absurd c (by decide)) (fun _ => ?_)
      refine ev_iload_n dX1_isOf_13 rfl rfl ?_
      refine ev_if_lt (tgt := 42) dX1_isOf_14 (by decide) (fun c => absurd c (by decide)) (fun _ => ?_)
      refine ev_iload_n dX1_isOf_17 rfl rfl ?_
      refine ev_bipush (v := 6) dX1_isOf_18 (by decide) ?_
      refine ev_icmp_ge (tgt := 42) dX1_isOf_20 (by decide) (fun c => absurd c (by decide)) (fun _ => ?_)
      refine ev_iload_n dX1_isOf_23 rfl rfl ?_
      refine ev_iload_n dX1_isOf_24 rfl rfl ?_
      refine ev_icmp_ne (tgt := 30) dX1_isOf_25 (by decide) (fun c10 => ?_) (fun c10 => ?_)
      · skip
        refine ev_ka rfl dX1_isOf_30 ?_
        refine ev_iload_n dX1_isOf_33 rfl rfl ?_
        refine ev_kald (v := 0) dX1_isOf_34 (am_ixn (j := 2) (by decide) (by decide)) rfl ?_
        refine ev_istore_n (lv' := [(0, .ref g), (1, .int w), (2, .int 0), (3, .int 1)]) dX1_isOf_35 rfl (by decide) rfl ?_
        refine ev_iinc (lv' := [(0, .ref g), (1, .int w), (2, .int 0), (3, .int 2)]) (v := 2) dX1_isOf_36 rfl (by decide) (by decide) rfl ?_
        refine ev_goto (tgt := 7) dX1_isOf_39 (by decide) ?_
        refine ev_iload_n dX1_isOf_7 rfl rfl ?_
        refine ev_bipush (v := 6) dX1_isOf_8 (by decide) ?_
        refine ev_icmp_ge (tgt := 42) dX1_isOf_10 (by decide) (fun c => absurd c (by decide)) (fun _ => ?_)
        refine ev_iload_n dX1_isOf_13 rfl rfl ?_
        refine ev_if_lt (tgt := 42) dX1_isOf_14 (by decide) (fun c => absurd c (by decide)) (fun _ => ?_)
        refine ev_iload_n dX1_isOf_17 rfl rfl ?_
        refine ev_bipush (v := 6) dX1_isOf_18 (by decide) ?_
        refine ev_icmp_ge (tgt := 42) dX1_isOf_20 (by decide) (fun c => absurd c (by decide)) (fun _ => ?_)
        refine ev_iload_n dX1_isOf_23 rfl rfl ?_
        refine ev_iload_n dX1_isOf_24 rfl rfl ?_
        refine ev_icmp_ne (tgt := 30) dX1_isOf_25 (by decide) (fun c11 => ?_) (fun c11 => ?_)
        · skip
          refine ev_ka rfl dX1_isOf_30 ?_
          refine ev_iload_n dX1_isOf_33 rfl rfl ?_
          refine ev_kald (v := (-1)) dX1_isOf_34 (am_ixn (j := 0) (by decide) (by decide)) rfl ?_
          refine ev_istore_n (lv' := [(0, .ref g), (1, .int w), (2, .int (-1)), (3, .int 2)]) dX1_isOf_35 rfl (by decide) rfl ?_
          refine ev_iinc (lv' := [(0, .ref g), (1, .int w), (2, .int (-1)), (3, .int 3)]) (v := 3) dX1_isOf_36 rfl (by decide) (by decide) rfl ?_
          refine ev_goto (tgt := 7) dX1_isOf_39 (by decide) ?_
          refine ev_iload_n dX1_isOf_7 rfl rfl ?_
          refine ev_bipush (v := 6) dX1_isOf_8 (by decide) ?_
          refine ev_icmp_ge (tgt := 42) dX1_isOf_10 (by decide) (fun c => absurd c (by decide)) (fun _ => ?_)
          refine ev_iload_n dX1_isOf_13 rfl rfl ?_
          refine ev_if_lt (tgt := 42) dX1_isOf_14 (by decide) (fun _ => ?_) (fun c => absurd (by decide) c)
          refine ev_iconst (v := 0) dX1_isOf_42 (by decide) ?_
          refine ev_retz dX1_isOf_43 rfl (Or.inl rfl) (Nat.zero_le _) (Nat.zero_le _) ?_
          have e : s_un 4 w = false := by
            cases hz : s_un 4 w with
            | false => rfl
            | true =>
              exfalso
              rcases s_unI.mp hz with q | q | ⟨q, r⟩ | ⟨q, r⟩
              · subst q; exact absurd rfl c11
              · subst q; exact absurd rfl c9
              · exact absurd r (by decide)
              · subst q; exact absurd rfl c10
          exact ⟨by rw [← hv, ← hk, eK, e]; rfl, rfl⟩
        · skip
          refine ev_iconst (v := 1) dX1_isOf_28 (by decide) ?_
          refine ev_retz dX1_isOf_29 rfl (Or.inr rfl) (Nat.zero_le _) (Nat.zero_le _) ?_
          have e : s_un 4 w = true := by
            subst c11
            decide
          exact ⟨by rw [← hv, ← hk, eK, e]; rfl, rfl⟩
      · skip
        refine ev_iconst (v := 1) dX1_isOf_28 (by decide) ?_
        refine ev_retz dX1_isOf_29 rfl (Or.inr rfl) (Nat.zero_le _) (Nat.zero_le _) ?_
        have e : s_un 4 w = true := by
          subst c10
          decide
        exact ⟨by rw [← hv, ← hk, eK, e]; rfl, rfl⟩
    · skip
      refine ev_iconst (v := 1) dX1_isOf_28 (by decide) ?_
      refine ev_retz dX1_isOf_29 rfl (Or.inr rfl) (Nat.zero_le _) (Nat.zero_le _) ?_
      have e : s_un 4 w = true := by
        subst c9
        decide
      exact ⟨by rw [← hv, ← hk, eK, e]; rfl, rfl⟩
  · skip
    replace eK : A 66 P = 5 := eK
    refine ev_aload_n dX1_isOf_0 rfl rfl ?_
    refine ev_getI (v := 5) dX1_isOf_1 fl_X1_15 (hX.gk hP hg) ((hX.g0 hP hg).trans eK) ?_
    refine ev_istore_n (lv' := [(0, .ref g), (1, .int w), (2, .int 5)]) dX1_isOf_4 rfl (by decide) rfl ?_
    refine ev_iconst (v := 0) dX1_isOf_5 (by decide) ?_
    refine ev_istore_n (lv' := [(0, .ref g), (1, .int w), (2, .int 5), (3, .int 0)]) dX1_isOf_6 rfl (by decide) rfl ?_
    refine ev_iload_n dX1_isOf_7 rfl rfl ?_
    refine ev_bipush (v := 6) dX1_isOf_8 (by decide) ?_
    refine ev_icmp_ge (tgt := 42) dX1_isOf_10 (by decide) (fun c => absurd c (by decide)) (fun _ => ?_)
    refine ev_iload_n dX1_isOf_13 rfl rfl ?_
    refine ev_if_lt (tgt := 42) dX1_isOf_14 (by decide) (fun c => absurd c (by decide)) (fun _ => ?_)
    refine ev_iload_n dX1_isOf_17 rfl rfl ?_
    refine ev_bipush (v := 6) dX1_isOf_18 (by decide) ?_
    refine ev_icmp_ge (tgt := 42) dX1_isOf_20 (by decide) (fun c => absurd c (by decide)) (fun _ => ?_)
    refine ev_iload_n dX1_isOf_23 rfl rfl ?_
    refine ev_iload_n dX1_isOf_24 rfl rfl ?_
    refine ev_icmp_ne (tgt := 30) dX1_isOf_25 (by decide) (fun c12 => ?_) (fun c12 => ?_)
    · skip
      refine ev_ka rfl dX1_isOf_30 ?_
      refine ev_iload_n dX1_isOf_33 rfl rfl ?_
      refine ev_kald (v := 0) dX1_isOf_34 (am_ixn (j := 5) (by decide) (by decide)) rfl ?_
      refine ev_istore_n (lv' := [(0, .ref g), (1, .int w), (2, .int 0), (3, .int 0)]) dX1_isOf_35 rfl (by decide) rfl ?_
      refine ev_iinc (lv' := [(0, .ref g), (1, .int w), (2, .int 0), (3, .int 1)]) (v := 1) dX1_isOf_36 rfl (by decide) (by decide) rfl ?_
      refine ev_goto (tgt := 7) dX1_isOf_39 (by decide) ?_
      refine ev_iload_n dX1_isOf_7 rfl rfl ?_
      refine ev_bipush (v := 6) dX1_isOf_8 (by decide) ?_
      refine ev_icmp_ge (tgt := 42) dX1_isOf_10 (by decide) (fun c => absurd c (by decide)) (fun _ => ?_)
      refine ev_iload_n dX1_isOf_13 rfl rfl ?_
      refine ev_if_lt (tgt := 42) dX1_isOf_14 (by decide) (fun c => absurd c (by decide)) (fun _ => ?_)
      refine ev_iload_n dX1_isOf_17 rfl rfl ?_
      refine ev_bipush (v := 6) dX1_isOf_18 (by decide) ?_
      refine ev_icmp_ge (tgt := 42) dX1_isOf_20 (by decide) (fun c => absurd c (by decide)) (fun _ => ?_)
      refine ev_iload_n dX1_isOf_23 rfl rfl ?_
      refine ev_iload_n dX1_isOf_24 rfl rfl ?_
      refine ev_icmp_ne (tgt := 30) dX1_isOf_25 (by decide) (fun c13 => ?_) (fun c13 => ?_)
      · skip
        refine ev_ka rfl dX1_isOf_30 ?_
        refine ev_iload_n dX1_isOf_33 rfl rfl ?_
        refine ev_kald (v := (-1)) dX1_isOf_34 (am_ixn (j := 0) (by decide) (by decide)) rfl ?_
        refine ev_istore_n (lv' := [(0, .ref g), (1, .int w), (2, .int (-1)), (3, .int 1)]) dX1_isOf_35 rfl (by decide) rfl ?_
        refine ev_iinc (lv' := [(0, .ref g), (1, .int w), (2, .int (-1)), (3, .int 2)]) (v := 2) dX1_isOf_36 rfl (by decide) (by decide) rfl ?_
        refine ev_goto (tgt := 7) dX1_isOf_39 (by decide) ?_
        refine ev_iload_n dX1_isOf_7 rfl rfl ?_
        refine ev_bipush (v := 6) dX1_isOf_8 (by decide) ?_
        refine ev_icmp_ge (tgt := 42) dX1_isOf_10 (by decide) (fun c => absurd c (by decide)) (fun _ => ?_)
        refine ev_iload_n dX1_isOf_13 rfl rfl ?_
        refine ev_if_lt (tgt := 42) dX1_isOf_14 (by decide) (fun _ => ?_) (fun c => absurd (by decide) c)
        refine ev_iconst (v := 0) dX1_isOf_42 (by decide) ?_
        refine ev_retz dX1_isOf_43 rfl (Or.inl rfl) (Nat.zero_le _) (Nat.zero_le _) ?_
        have e : s_un 5 w = false := by
          cases hz : s_un 5 w with
          | false => rfl
          | true =>
            exfalso
            rcases s_unI.mp hz with q | q | ⟨q, r⟩ | ⟨q, r⟩
            · subst q; exact absurd rfl c13
            · subst q; exact absurd rfl c12
            · exact absurd r (by decide)
            · exact absurd r (by decide)
        exact ⟨by rw [← hv, ← hk, eK, e]; rfl, rfl⟩
      · skip
        refine ev_iconst (v := 1) dX1_isOf_28 (by decide) ?_
        refine ev_retz dX1_isOf_29 rfl (Or.inr rfl) (Nat.zero_le _) (Nat.zero_le _) ?_
        have e : s_un 5 w = true := by
          subst c13
          decide
        exact ⟨by rw [← hv, ← hk, eK, e]; rfl, rfl⟩
    · skip
      refine ev_iconst (v := 1) dX1_isOf_28 (by decide) ?_
      refine ev_retz dX1_isOf_29 rfl (Or.inr rfl) (Nat.zero_le _) (Nat.zero_le _) ?_
      have e : s_un 5 w = true := by
        subst c12
        decide
      exact ⟨by rw [← hv, ← hk, eK, e]; rfl, rfl⟩

set_option maxHeartbeats 400000 in
set_option maxRecDepth 100000 in
theorem c_X1_isOwn (G : am_G) (D : Nat) (A : am_S) (σ : am_M) (hX : iv_X A σ) (P g : Nat) (hP : P < s_np A) (hg : σ.2.2 33 P = some g) (i : Int32) : am_Mt G D mX1_isOwn [.ref g, .int i] σ 0 0 (am_zq (i = A 68 P - A 68 P / 4 * 4) σ) := by
  refine am_of moX1_isOwn (Nat.le_of_ble_eq_true rfl) ?_
  show am_Ev G mX1_isOwn (am_R D 0 0) 0 0 (am_zq (i = A 68 P - A 68 P / 4 * 4) σ) 0 [(0, .ref g), (1, .int i)] [] σ 0 0
  refine ev_iload_n dX1_isOwn_0 rfl rfl ?_
  refine ev_aload_n dX1_isOwn_1 rfl rfl ?_
  refine ev_getI (v := A 68 P) dX1_isOwn_2 fl_X1_19 (hX.gk hP hg) (hX.g1 hP hg) ?_
  refine ev_iconst (v := 4) dX1_isOwn_5 (by decide) ?_
  refine ev_irem (v := (A 68 P) - (A 68 P) / 4 * 4) dX1_isOwn_6 (by decide) rfl ?_
  refine ev_icmp_ne (tgt := 14) dX1_isOwn_7 (by decide) (fun c1 => ?_) (fun c1 => ?_)
  · skip
    refine ev_iconst (v := 0) dX1_isOwn_14 (by decide) ?_
    refine ev_retz dX1_isOwn_15 rfl (Or.inl rfl) (Nat.zero_le _) (Nat.zero_le _) ?_
    exact Or.inr ⟨c1, rfl, rfl⟩
  · skip
    refine ev_iconst (v := 1) dX1_isOwn_10 (by decide) ?_
    refine ev_goto (tgt := 15) dX1_isOwn_11 (by decide) ?_
    refine ev_retz dX1_isOwn_15 rfl (Or.inr rfl) (Nat.zero_le _) (Nat.zero_le _) ?_
    exact Or.inl ⟨c1, rfl, rfl⟩

set_option maxHeartbeats 400000 in
set_option maxRecDepth 100000 in
theorem c_X1_knows (G : am_G) (D : Nat) (A : am_S) (σ : am_M) (hA : wf_A A) (hX : iv_X A σ) (P g : Nat) (hP : P < s_np A) (hg : σ.2.2 33 P = some g) (q tq : Nat) (hq : q < s_nq A) (htq : tq < 4) (etq : A 71 q = nI tq) : am_Mt G (D + 2) mX1_knows [.ref g, .int (nI tq), .int (nI q)] σ 0 0 (am_q (.int (s_kn A P q)) σ) := by
  have b7 := wf_np7 hA
  have b8 := wf_nq8 hA
  have b6 := wf_nt6 hA
  have b61 := wf_nt1 hA
  have b160 := wf_tp160 hA
  have brl := wf_rlt hA
  refine am_of moX1_knows (Nat.le_of_ble_eq_true rfl) ?_
  show am_Ev G mX1_knows (am_R (D + 2) 0 0) 0 0 (am_q (.int (s_kn A P q)) σ) 0 [(0, .ref g), (1, .int (nI tq)), (2, .int (nI q))] [] σ 0 0
  obtain ⟨⟨K, hK, eK⟩, -⟩ := wf_pp hA P hP
  rcases (show K = 0 ∨ K = 1 ∨ K = 2 ∨ K = 3 ∨ K = 4 ∨ K = 5 by omega) with rfl | rfl | rfl | rfl | rfl | rfl
  · skip
    replace eK : A 66 P = 0 := eK
    refine ev_aload_n dX1_knows_0 rfl rfl ?_
    refine ev_iload_n dX1_knows_1 rfl rfl ?_
    refine ev_callV (as := [.int (nI tq)]) (st := []) dX1_knows_2 mfX1_deepAt lk_X1_39 (hX.gk hP hg) (by decide) rfl (c_X1_deepAtN G D A σ hA hX P g hP hg tq (by omega)) rfl rfl (Nat.le_of_ble_eq_true rfl) (am_hR (by omega) (by decide)) ⟨Nat.le_refl _, Nat.le_refl _⟩ ?_
    rintro _ _ ⟨rfl, rfl⟩
    refine ev_istore_n (lv' := [(0, .ref g), (1, .int (nI tq)), (2, .int (nI q)), (3, .int (A 70 (4 * P + tq)))]) dX1_knows_5 rfl (by decide) rfl ?_
    refine ev_aload_n dX1_knows_6 rfl rfl ?_
    refine ev_iconst (v := 1) dX1_knows_7 (by decide) ?_
    refine ev_callV (as := [.int 1]) (st := []) dX1_knows_8 mfX1_isOf lk_X1_43 (hX.gk hP hg) (by decide) rfl (c_X1_isOf G (D + 1) A σ hA hX P g hP hg 1 0 0 eK (by decide)) rfl rfl (Nat.le_of_ble_eq_true rfl) (am_hR (by omega) (by decide)) ⟨Nat.le_refl _, Nat.le_refl _⟩ ?_
    rintro _ _ ⟨rfl, rfl⟩
    refine ev_if_eq (tgt := 25) dX1_knows_11 (by decide) (fun _ => ?_) (fun c => absurd (by decide) c)
    refine ev_aload_n dX1_knows_25 rfl rfl ?_
    refine ev_iconst (v := 3) dX1_knows_26 (by decide) ?_
    refine ev_callV (as := [.int 3]) (st := []) dX1_knows_27 mfX1_isOf lk_X1_43 (hX.gk hP hg) (by decide) rfl (c_X1_isOf G (D + 1) A σ hA hX P g hP hg 3 0 0 eK (by decide)) rfl rfl (Nat.le_of_ble_eq_true rfl) (am_hR (by omega) (by decide)) ⟨Nat.le_refl _, Nat.le_refl _⟩ ?_
    rintro _ _ ⟨rfl, rfl⟩
    refine ev_if_eq (tgt := 39) dX1_knows_30 (by decide) (fun _ => ?_) (fun c => absurd (by decide) c)
    refine ev_aload_n dX1_knows_39 rfl rfl ?_
    refine ev_iconst (v := 4) dX1_knows_40 (by decide) ?_
    refine ev_callV (as := [.int 4]) (st := []) dX1_knows_41 mfX1_isOf lk_X1_43 (hX.gk hP hg) (by decide) rfl (c_X1_isOf G (D + 1) A σ hA hX P g hP hg 4 0 0 eK (by decide)) rfl rfl (Nat.le_of_ble_eq_true rfl) (am_hR (by omega) (by decide)) ⟨Nat.le_refl _, Nat.le_refl _⟩ ?_
    rintro _ _ ⟨rfl, rfl⟩
    refine ev_if_eq (tgt := 50) dX1_knows_44 (by decide) (fun _ => ?_) (fun c => absurd (by decide) c)
    refine ev_aload_n dX1_knows_50 rfl rfl ?_
    refine ev_iconst (v := 5) dX1_knows_51 (by decide) ?_
    refine ev_callV (as := [.int 5]) (st := []) dX1_knows_52 mfX1_isOf lk_X1_43 (hX.gk hP hg) (by decide) rfl (c_X1_isOf G (D + 1) A σ hA hX P g hP hg 5 0 0 eK (by decide)) rfl rfl (Nat.le_of_ble_eq_true rfl) (am_hR (by omega) (by decide)) ⟨Nat.le_refl _, Nat.le_refl _⟩ ?_
    rintro _ _ ⟨rfl, rfl⟩
    refine ev_if_eq (tgt := 69) dX1_knows_55 (by decide) (fun _ => ?_) (fun c => absurd (by decide) c)
    refine ev_iload_n dX1_knows_69 rfl rfl ?_
    refine ev_iconst (v := 0) dX1_knows_70 (by decide) ?_
    refine ev_bipush (v := 9) dX1_knows_71 (by decide) ?_
    refine ev_callSN (as := [.int (A 70 (4 * P + tq)), .int 0, .int 9]) (st := []) dX1_knows_73 mfX6_bounded lk_X1_35 (c_X6_bounded G D σ (A 70 (4 * P + tq)) 0 9 (by decide)) rfl rfl (Nat.le_of_ble_eq_true rfl) (am_hR (by omega) (by decide)) ⟨Nat.le_refl _, Nat.le_refl _⟩ ?_
    rintro _ _ ⟨rfl, rfl⟩
    refine ev_reti dX1_knows_76 rfl (Nat.zero_le _) (Nat.zero_le _) ?_
    have e : s_kv A P (A 71 q) (nI q) (A 70 (4 * P + sN (A 71 q))) = (A 70 (4 * P + tq)) := by
      rw [etq, sN_n (by omega)]
      simp [s_kv, eK, ]
    exact ⟨by unfold s_kn; rw [e], rfl⟩
  · skip
    replace eK : A 66 P = 1 := eK
    refine ev_aload_n dX1_knows_0 rfl rfl ?_
    refine ev_iload_n dX1_knows_1 rfl rfl ?_
    refine ev_callV (as := [.int (nI tq)]) (st := []) dX1_knows_2 mfX1_deepAt lk_X1_39 (hX.gk hP hg) (by decide) rfl (c_X1_deepAtN G D A σ hA hX P g hP hg tq (by omega)) rfl rfl (Nat.le_of_ble_eq_true rfl) (am_hR (by omega) (by decide)) ⟨Nat.le_refl _, Nat.le_refl _⟩ ?_
    rintro _ _ ⟨rfl, rfl⟩
    refine ev_istore_n (lv' := [(0, .ref g), (1, .int (nI tq)), (2, .int (nI q)), (3, .int (A 70 (4 * P + tq)))]) dX1_knows_5 rfl (by decide) rfl ?_
    refine ev_aload_n dX1_knows_6 rfl rfl ?_
    refine ev_iconst (v := 1) dX1_knows_7 (by decide) ?_
    refine ev_callV (as := [.int 1]) (st := []) dX1_knows_8 mfX1_isOf lk_X1_43 (hX.gk hP hg) (by decide) rfl (c_X1_isOf G (D + 1) A σ hA hX P g hP hg 1 1 1 eK (by decide)) rfl rfl (Nat.le_of_ble_eq_true rfl) (am_hR (by omega) (by decide)) ⟨Nat.le_refl _, Nat.le_refl _⟩ ?_
    rintro _ _ ⟨rfl, rfl⟩
    refine ev_if_eq (tgt := 25) dX1_knows_11 (by decide) (fun c => absurd c (by decide)) (fun _ => ?_)
    refine ev_aload_n dX1_knows_14 rfl rfl ?_
    refine ev_iload_n dX1_knows_15 rfl rfl ?_
    refine ev_callV (as := [.int (nI tq)]) (st := []) dX1_knows_16 mfX1_isOwn lk_X1_46 (hX.gk hP hg) (by decide) rfl (c_X1_isOwn G (D + 1) A σ hX P g hP hg (nI tq)) rfl rfl (Nat.le_of_ble_eq_true rfl) (am_hR (by omega) (by decide)) ⟨Nat.le_refl _, Nat.le_refl _⟩ ?_
    rintro _ _ (⟨h1, rfl, rfl⟩ | ⟨h1, rfl, rfl⟩)
    · skip
      refine ev_if_eq (tgt := 25) dX1_knows_19 (by decide) (fun c => absurd c (by decide)) (fun _ => ?_)
      refine ev_iinc (lv' := [(0, .ref g), (1, .int (nI tq)), (2, .int (nI q)), (3, .int ((A 70 (4 * P + tq)) + 3))]) (v := (A 70 (4 * P + tq)) + 3) dX1_knows_22 rfl rfl (by decide) rfl ?_
      refine ev_aload_n dX1_knows_25 rfl rfl ?_
      refine ev_iconst (v := 3) dX1_knows_26 (by decide) ?_
      refine ev_callV (as := [.int 3]) (st := []) dX1_knows_27 mfX1_isOf lk_X1_43 (hX.gk hP hg) (by decide) rfl (c_X1_isOf G (D + 1) A σ hA hX P g hP hg 3 1 0 eK (by decide)) rfl rfl (Nat.le_of_ble_eq_true rfl) (am_hR (by omega) (by decide)) ⟨Nat.le_refl _, Nat.le_refl _⟩ ?_
      rintro _ _ ⟨rfl, rfl⟩
      refine ev_if_eq (tgt := 39) dX1_knows_30 (by decide) (fun _ => ?_) (fun c => absurd (by decide) c)
      refine ev_aload_n dX1_knows_39 rfl rfl ?_
      refine ev_iconst (v := 4) dX1_knows_40 (by decide) ?_
      refine ev_callV (as := [.int 4]) (st := []) dX1_knows_41 mfX1_isOf lk_X1_43 (hX.gk hP hg) (by decide) rfl (c_X1_isOf G (D + 1) A σ hA hX P g hP hg 4 1 0 eK (by decide)) rfl rfl (Nat.le_of_ble_eq_true rfl) (am_hR (by omega) (by decide)) ⟨Nat.le_refl _, Nat.le_refl _⟩ ?_
      rintro _ _ ⟨rfl, rfl⟩
      refine ev_if_eq (tgt := 50) dX1_knows_44 (by decide) (fun _ => ?_) (fun c => absurd (by decide) c)
      refine ev_aload_n dX1_knows_50 rfl rfl ?_
      refine ev_iconst (v := 5) dX1_knows_51 (by decide) ?_
      refine ev_callV (as := [.int 5]) (st := []) dX1_knows_52 mfX1_isOf lk_X1_43 (hX.gk hP hg) (by decide) rfl (c_X1_isOf G (D + 1) A σ hA hX P g hP hg 5 1 0 eK (by decide)) rfl rfl (Nat.le_of_ble_eq_true rfl) (am_hR (by omega) (by decide)) ⟨Nat.le_refl _, Nat.le_refl _⟩ ?_
      rintro _ _ ⟨rfl, rfl⟩
      refine ev_if_eq (tgt := 69) dX1_knows_55 (by decide) (fun _ => ?_) (fun c => absurd (by decide) c)
      refine ev_iload_n dX1_knows_69 rfl rfl ?_
      refine ev_iconst (v := 0) dX1_knows_70 (by decide) ?_
      refine ev_bipush (v := 9) dX1_knows_71 (by decide) ?_
      refine ev_callSN (as := [.int ((A 70 (4 * P + tq)) + 3), .int 0, .int 9]) (st := []) dX1_knows_73 mfX6_bounded lk_X1_35 (c_X6_bounded G D σ ((A 70 (4 * P + tq)) + 3) 0 9 (by decide)) rfl rfl (Nat.le_of_ble_eq_true rfl) (am_hR (by omega) (by decide)) ⟨Nat.le_refl _, Nat.le_refl _⟩ ?_
      rintro _ _ ⟨rfl, rfl⟩
      refine ev_reti dX1_knows_76 rfl (Nat.zero_le _) (Nat.zero_le _) ?_
      have e : s_kv A P (A 71 q) (nI q) (A 70 (4 * P + sN (A 71 q))) = ((A 70 (4 * P + tq)) + 3) := by
        rw [etq, sN_n (by omega)]
        simp [s_kv, eK, h1]
      exact ⟨by unfold s_kn; rw [e], rfl⟩
    · skip
      refine ev_if_eq (tgt := 25) dX1_knows_19 (by decide) (fun _ => ?_) (fun c => absurd (by decide) c)
      refine ev_aload_n dX1_knows_25 rfl rfl ?_
      refine ev_iconst (v := 3) dX1_knows_26 (by decide) ?_
      refine ev_callV (as := [.int 3]) (st := []) dX1_knows_27 mfX1_isOf lk_X1_43 (hX.gk hP hg) (by decide) rfl (c_X1_isOf G (D + 1) A σ hA hX P g hP hg 3 1 0 eK (by decide)) rfl rfl (Nat.le_of_ble_eq_true rfl) (am_hR (by omega) (by decide)) ⟨Nat.le_refl _, Nat.le_refl _⟩ ?_
      rintro _ _ ⟨rfl, rfl⟩
      refine ev_if_eq (tgt := 39) dX1_knows_30 (by decide) (fun _ => ?_) (fun c => absurd (by decide) c)
      refine ev_aload_n dX1_knows_39 rfl rfl ?_
      refine ev_iconst (v := 4) dX1_knows_40 (by decide) ?_
      refine ev_callV (as := [.int 4]) (st := []) dX1_knows_41 mfX1_isOf lk_X1_43 (hX.gk hP hg) (by decide) rfl (c_X1_isOf G (D + 1) A σ hA hX P g hP hg 4 1 0 eK (by decide)) rfl rfl (Nat.le_of_ble_eq_true rfl) (am_hR (by omega) (by decide)) ⟨Nat.le_refl _, Nat.le_refl _⟩ ?_
      rintro _ _ ⟨rfl, rfl⟩
      refine ev_if_eq (tgt := 50) dX1_knows_44 (by decide) (fun _ => ?_) (fun c => absurd (by decide) c)
      refine ev_aload_n dX1_knows_50 rfl rfl ?_
      refine ev_iconst (v := 5) dX1_knows_51 (by decide) ?_
      refine ev_callV (as := [.int 5]) (st := []) dX1_knows_52 mfX1_isOf lk_X1_43 (hX.gk hP hg) (by decide) rfl (c_X1_isOf G (D + 1) A σ hA hX P g hP hg 5 1 0 eK (by decide)) rfl rfl (Nat.le_of_ble_eq_true rfl) (am_hR (by omega) (by decide)) ⟨Nat.le_refl _, Nat.le_refl _⟩ ?_
      rintro _ _ ⟨rfl, rfl⟩
      refine ev_if_eq (tgt := 69) dX1_knows_55 (by decide) (fun _ => ?_) (fun c => absurd (by decide) c)
      refine ev_iload_n dX1_knows_69 rfl rfl ?_
      refine ev_iconst (v := 0) dX1_knows_70 (by decide) ?_
      refine ev_bipush (v := 9) dX1_knows_71 (by decide) ?_
      refine ev_callSN (as := [.int (A 70 (4 * P + tq)), .int 0, .int 9]) (st := []) dX1_knows_73 mfX6_bounded lk_X1_35 (c_X6_bounded G D σ (A 70 (4 * P + tq)) 0 9 (by decide)) rfl rfl (Nat.le_of_ble_eq_true rfl) (am_hR (by omega) (by decide)) ⟨Nat.le_refl _, Nat.le_refl _⟩ ?_
      rintro _ _ ⟨rfl, rfl⟩
      refine ev_reti dX1_knows_76 rfl (Nat.zero_le _) (Nat.zero_le _) ?_
      have e : s_kv A P (A 71 q) (nI q) (A 70 (4 * P + sN (A 71 q))) = (A 70 (4 * P + tq)) := by
        rw [etq, sN_n (by omega)]
        simp [s_kv, eK, h1]
      exact ⟨by unfold s_kn; rw [e], rfl⟩
  · skip
    replace eK : A 66 P = 2 := eK
    refine ev_aload_n dX1_knows_0 rfl rfl ?_
    refine ev_iload_n dX1_knows_1 rfl rfl ?_
    refine ev_callV (as := [.int (nI tq)]) (st := []) dX1_knows_2 mfX1_deepAt lk_X1_39 (hX.gk hP hg) (by decide) rfl (c_X1_deepAtN G D A σ hA hX P g hP hg tq (by omega)) rfl rfl (Nat.le_of_ble_eq_true rfl) (am_hR (by omega) (by decide)) ⟨Nat.le_refl _, Nat.le_refl _⟩ ?_
    rintro _ _ ⟨rfl, rfl⟩
    refine ev_istore_n (lv' := [(0, .ref g), (1, .int (nI tq)), (2, .int (nI q)), (3, .int (A 70 (4 * P + tq)))]) dX1_knows_5 rfl (by decide) rfl ?_
    refine ev_aload_n dX1_knows_6 rfl rfl ?_
    refine ev_iconst (v := 1) dX1_knows_7 (by decide) ?_
    refine ev_callV (as := [.int 1]) (st := []) dX1_knows_8 mfX1_isOf lk_X1_43 (hX.gk hP hg) (by decide) rfl (c_X1_isOf G (D + 1) A σ hA hX P g hP hg 1 2 0 eK (by decide)) rfl rfl (Nat.le_of_ble_eq_true rfl) (am_hR (by omega) (by decide)) ⟨Nat.le_refl _, Nat.le_refl _⟩ ?_
    rintro _ _ ⟨rfl, rfl⟩
    refine ev_if_eq (tgt := 25) dX1_knows_11 (by decide) (fun _ => ?_) (fun c => absurd (by decide) c)
    refine ev_aload_n dX1_knows_25 rfl rfl ?_
    refine ev_iconst (v := 3) dX1_knows_26 (by decide) ?_
    refine ev_callV (as := [.int 3]) (st := []) dX1_knows_27 mfX1_isOf lk_X1_43 (hX.gk hP hg) (by decide) rfl (c_X1_isOf G (D + 1) A σ hA hX P g hP hg 3 2 0 eK (by decide)) rfl rfl (Nat.le_of_ble_eq_true rfl) (am_hR (by omega) (by decide)) ⟨Nat.le_refl _, Nat.le_refl _⟩ ?_
    rintro _ _ ⟨rfl, rfl⟩
    refine ev_if_eq (tgt := 39) dX1_knows_30 (by decide) (fun _ => ?_) (fun c => absurd (by decide) c)
    refine ev_aload_n dX1_knows_39 rfl rfl ?_
    refine ev_iconst (v := 4) dX1_knows_40 (by decide) ?_
    refine ev_callV (as := [.int 4]) (st := []) dX1_knows_41 mfX1_isOf lk_X1_43 (hX.gk hP hg) (by decide) rfl (c_X1_isOf G (D + 1) A σ hA hX P g hP hg 4 2 0 eK (by decide)) rfl rfl (Nat.le_of_ble_eq_true rfl) (am_hR (by omega) (by decide)) ⟨Nat.le_refl _, Nat.le_refl _⟩ ?_
    rintro _ _ ⟨rfl, rfl⟩
    refine ev_if_eq (tgt := 50) dX1_knows_44 (by decide) (fun _ => ?_) (fun c => absurd (by decide) c)
    refine ev_aload_n dX1_knows_50 rfl rfl ?_
    refine ev_iconst (v := 5) dX1_knows_51 (by decide) ?_
    refine ev_callV (as := [.int 5]) (st := []) dX1_knows_52 mfX1_isOf lk_X1_43 (hX.gk hP hg) (by decide) rfl (c_X1_isOf G (D + 1) A σ hA hX P g hP hg 5 2 0 eK (by decide)) rfl rfl (Nat.le_of_ble_eq_true rfl) (am_hR (by omega) (by decide)) ⟨Nat.le_refl _, Nat.le_refl _⟩ ?_
    rintro _ _ ⟨rfl, rfl⟩
    refine ev_if_eq (tgt := 69) dX1_knows_55 (by decide) (fun _ => ?_) (fun c => absurd (by decide) c)
    refine ev_iload_n dX1_knows_69 rfl rfl ?_
    refine ev_iconst (v := 0) dX1_knows_70 (by decide) ?_
    refine ev_bipush (v := 9) dX1_knows_71 (by decide) ?_
    refine ev_callSN (as := [.int (A 70 (4 * P + tq)), .int 0, .int 9]) (st := []) dX1_knows_73 mfX6_bounded lk_X1_35 (c_X6_bounded G D σ (A 70 (4 * P + tq)) 0 9 (by decide)) rfl rfl (Nat.le_of_ble_eq_true rfl) (am_hR (by omega) (by decide)) ⟨Nat.le_refl _, Nat.le_refl _⟩ ?_
    rintro _ _ ⟨rfl, rfl⟩
    refine ev_reti dX1_knows_76 rfl (Nat.zero_le _) (Nat.zero_le _) ?_
    have e : s_kv A P (A 71 q) (nI q) (A 70 (4 * P + sN (A 71 q))) = (A 70 (4 * P + tq)) := by
      rw [etq, sN_n (by omega)]
      simp [s_kv, eK, ]
    exact ⟨by unfold s_kn; rw [e], rfl⟩
  · skip
    replace eK : A 66 P = 3 := eK
    refine ev_aload_n dX1_knows_0 rfl rfl ?_
    refine ev_iload_n dX1_knows_1 rfl rfl ?_
    refine ev_callV (as := [.int (nI tq)]) (st := []) dX1_knows_2 mfX1_deepAt lk_X1_39 (hX.gk hP hg) (by decide) rfl (c_X1_deepAtN G D A σ hA hX P g hP hg tq (by omega)) rfl rfl (Nat.le_of_ble_eq_true rfl) (am_hR (by omega) (by decide)) ⟨Nat.le_refl _, Nat.le_refl _⟩ ?_
    rintro _ _ ⟨rfl, rfl⟩
    refine ev_istore_n (lv' := [(0, .ref g), (1, .int (nI tq)), (2, .int (nI q)), (3, .int (A 70 (4 * P + tq)))]) dX1_knows_5 rfl (by decide) rfl ?_
    refine ev_aload_n dX1_knows_6 rfl rfl ?_
    refine ev_iconst (v := 1) dX1_knows_7 (by decide) ?_
    refine ev_callV (as := [.int 1]) (st := []) dX1_knows_8 mfX1_isOf lk_X1_43 (hX.gk hP hg) (by decide) rfl (c_X1_isOf G (D + 1) A σ hA hX P g hP hg 1 3 1 eK (by decide)) rfl rfl (Nat.le_of_ble_eq_true rfl) (am_hR (by omega) (by decide)) ⟨Nat.le_refl _, Nat.le_refl _⟩ ?_
    rintro _ _ ⟨rfl, rfl⟩
    refine ev_if_eq (tgt := 25) dX1_knows_11 (by decide) (fun c => absurd c (by decide)) (fun _ => ?_)
    refine ev_aload_n dX1_knows_14 rfl rfl ?_
    refine ev_iload_n dX1_knows_15 rfl rfl ?_
    refine ev_callV (as := [.int (nI tq)]) (st := []) dX1_knows_16 mfX1_isOwn lk_X1_46 (hX.gk hP hg) (by decide) rfl (c_X1_isOwn G (D + 1) A σ hX P g hP hg (nI tq)) rfl rfl (Nat.le_of_ble_eq_true rfl) (am_hR (by omega) (by decide)) ⟨Nat.le_refl _, Nat.le_refl _⟩ ?_
    rintro _ _ (⟨h2, rfl, rfl⟩ | ⟨h2, rfl, rfl⟩)
    · skip
      refine ev_if_eq (tgt := 25) dX1_knows_19 (by decide) (fun c => absurd c (by decide)) (fun _ => ?_)
      refine ev_iinc (lv' := [(0, .ref g), (1, .int (nI tq)), (2, .int (nI q)), (3, .int ((A 70 (4 * P + tq)) + 3))]) (v := (A 70 (4 * P + tq)) + 3) dX1_knows_22 rfl rfl (by decide) rfl ?_
      refine ev_aload_n dX1_knows_25 rfl rfl ?_
      refine ev_iconst (v := 3) dX1_knows_26 (by decide) ?_
      refine ev_callV (as := [.int 3]) (st := []) dX1_knows_27 mfX1_isOf lk_X1_43 (hX.gk hP hg) (by decide) rfl (c_X1_isOf G (D + 1) A σ hA hX P g hP hg 3 3 1 eK (by decide)) rfl rfl (Nat.le_of_ble_eq_true rfl) (am_hR (by omega) (by decide)) ⟨Nat.le_refl _, Nat.le_refl _⟩ ?_
      rintro _ _ ⟨rfl, rfl⟩
      refine ev_if_eq (tgt := 39) dX1_knows_30 (by decide) (fun c => absurd c (by decide)) (fun _ => ?_)
      refine ev_iload_n dX1_knows_33 rfl rfl ?_
      refine ev_iload_n dX1_knows_34 rfl rfl ?_
      refine ev_iconst (v := 3) dX1_knows_35 (by decide) ?_
      refine ev_idiv (v := (nI q) / 3) dX1_knows_36 (by decide) rfl ?_
      refine ev_isub (v := ((A 70 (4 * P + tq)) + 3) - ((nI q) / 3)) dX1_knows_37 rfl ?_
      refine ev_istore_n (lv' := [(0, .ref g), (1, .int (nI tq)), (2, .int (nI q)), (3, .int (((A 70 (4 * P + tq)) + 3) - ((nI q) / 3)))]) dX1_knows_38 rfl (by decide) rfl ?_
      refine ev_aload_n dX1_knows_39 rfl rfl ?_
      refine ev_iconst (v := 4) dX1_knows_40 (by decide) ?_
      refine ev_callV (as := [.int 4]) (st := []) dX1_knows_41 mfX1_isOf lk_X1_43 (hX.gk hP hg) (by decide) rfl (c_X1_isOf G (D + 1) A σ hA hX P g hP hg 4 3 0 eK (by decide)) rfl rfl (Nat.le_of_ble_eq_true rfl) (am_hR (by omega) (by decide)) ⟨Nat.le_refl _, Nat.le_refl _⟩ ?_
      rintro _ _ ⟨rfl, rfl⟩
      refine ev_if_eq (tgt := 50) dX1_knows_44 (by decide) (fun _ => ?_) (fun c => absurd (by decide) c)
      refine ev_aload_n dX1_knows_50 rfl rfl ?_
      refine ev_iconst (v := 5) dX1_knows_51 (by decide) ?_
      refine ev_callV (as := [.int 5]) (st := []) dX1_knows_52 mfX1_isOf lk_X1_43 (hX.gk hP hg) (by decide) rfl (c_X1_isOf G (D + 1) A σ hA hX P g hP hg 5 3 0 eK (by decide)) rfl rfl (Nat.le_of_ble_eq_true rfl) (am_hR (by omega) (by decide)) ⟨Nat.le_refl _, Nat.le_refl _⟩ ?_
      rintro _ _ ⟨rfl, rfl⟩
      refine ev_if_eq (tgt := 69) dX1_knows_55 (by decide) (fun _ => ?_) (fun c => absurd (by decide) c)
      refine ev_iload_n dX1_knows_69 rfl rfl ?_
      refine ev_iconst (v := 0) dX1_knows_70 (by decide) ?_
      refine ev_bipush (v := 9) dX1_knows_71 (by decide) ?_
      refine ev_callSN (as := [.int (((A 70 (4 * P + tq)) + 3) - ((nI q) / 3)), .int 0, .int 9]) (st := []) dX1_knows_73 mfX6_bounded lk_X1_35 (c_X6_bounded G D σ (((A 70 (4 * P + tq)) + 3) - ((nI q) / 3)) 0 9 (by decide)) rfl rfl (Nat.le_of_ble_eq_true rfl) (am_hR (by omega) (by decide)) ⟨Nat.le_refl _, Nat.le_refl _⟩ ?_
      rintro _ _ ⟨rfl, rfl⟩
      refine ev_reti dX1_knows_76 rfl (Nat.zero_le _) (Nat.zero_le _) ?_
      have e : s_kv A P (A 71 q) (nI q) (A 70 (4 * P + sN (A 71 q))) = (((A 70 (4 * P + tq)) + 3) - ((nI q) / 3)) := by
        rw [etq, sN_n (by omega)]
        simp [s_kv, eK, h2]
      exact ⟨by unfold s_kn; rw [e], rfl⟩
    · skip
      refine ev_if_eq (tgt := 25) dX1_knows_19 (by decide) (fun _ => ?_) (fun c => absurd (by decide) c)
      refine ev_aload_n dX1_knows_25 rfl rfl ?_
      refine ev_iconst (v := 3) dX1_knows_26 (by decide) ?_
      refine ev_callV (as := [.int 3]) (st := []) dX1_knows_27 mfX1_isOf lk_X1_43 (hX.gk hP hg) (by decide) rfl (c_X1_isOf G (D + 1) A σ hA hX P g hP hg 3 3 1 eK (by decide)) rfl rfl (Nat.le_of_ble_eq_true rfl) (am_hR (by omega) (by decide)) ⟨Nat.le_refl _, Nat.le_refl _⟩ ?_
      rintro _ _ ⟨rfl, rfl⟩
      refine ev_if_eq (tgt := 39) dX1_knows_30 (by decide) (fun c => absurd c (by decide)) (fun _ => ?_)
      refine ev_iload_n dX1_knows_33 rfl rfl ?_
      refine ev_iload_n dX1_knows_34 rfl rfl ?_
      refine ev_iconst (v := 3) dX1_knows_35 (by decide) ?_
      refine ev_idiv (v := (nI q) / 3) dX1_knows_36 (by decide) rfl ?_
      refine ev_isub (v := (A 70 (4 * P + tq)) - ((nI q) / 3)) dX1_knows_37 rfl ?_
      refine ev_istore_n (lv' := [(0, .ref g), (1, .int (nI tq)), (2, .int (nI q)), (3, .int ((A 70 (4 * P + tq)) - ((nI q) / 3)))]) dX1_knows_38 rfl (by decide) rfl ?_
      refine ev_aload_n dX1_knows_39 rfl rfl ?_
      refine ev_iconst (v := 4) dX1_knows_40 (by decide) ?_
      refine ev_callV (as := [.int 4]) (st := []) dX1_knows_41 mfX1_isOf lk_X1_43 (hX.gk hP hg) (by decide) rfl (c_X1_isOf G (D + 1) A σ hA hX P g hP hg 4 3 0 eK (by decide)) rfl rfl (Nat.le_of_ble_eq_true rfl) (am_hR (by omega) (by decide)) ⟨Nat.le_refl _, Nat.le_refl _⟩ ?_
      rintro _ _ ⟨rfl, rfl⟩
      refine ev_if_eq (tgt := 50) dX1_knows_44 (by decide) (fun _ => ?_) (fun c => absurd (by decide) c)
      refine ev_aload_n dX1_knows_50 rfl rfl ?_
      refine ev_iconst (v := 5) dX1_knows_51 (by decide) ?_
      refine ev_callV (as := [.int 5]) (st := []) dX1_knows_52 mfX1_isOf lk_X1_43 (hX.gk hP hg) (by decide) rfl (c_X1_isOf G (D + 1) A σ hA hX P g hP hg 5 3 0 eK (by decide)) rfl rfl (Nat.le_of_ble_eq_true rfl) (am_hR (by omega) (by decide)) ⟨Nat.le_refl _, Nat.le_refl _⟩ ?_
      rintro _ _ ⟨rfl, rfl⟩
      refine ev_if_eq (tgt := 69) dX1_knows_55 (by decide) (fun _ => ?_) (fun c => absurd (by decide) c)
      refine ev_iload_n dX1_knows_69 rfl rfl ?_
      refine ev_iconst (v := 0) dX1_knows_70 (by decide) ?_
      refine ev_bipush (v := 9) dX1_knows_71 (by decide) ?_
      refine ev_callSN (as := [.int ((A 70 (4 * P + tq)) - ((nI q) / 3)), .int 0, .int 9]) (st := []) dX1_knows_73 mfX6_bounded lk_X1_35 (c_X6_bounded G D σ ((A 70 (4 * P + tq)) - ((nI q) / 3)) 0 9 (by decide)) rfl rfl (Nat.le_of_ble_eq_true rfl) (am_hR (by omega) (by decide)) ⟨Nat.le_refl _, Nat.le_refl _⟩ ?_
      rintro _ _ ⟨rfl, rfl⟩
      refine ev_reti dX1_knows_76 rfl (Nat.zero_le _) (Nat.zero_le _) ?_
      have e : s_kv A P (A 71 q) (nI q) (A 70 (4 * P + sN (A 71 q))) = ((A 70 (4 * P + tq)) - ((nI q) / 3)) := by
        rw [etq, sN_n (by omega)]
        simp [s_kv, eK, h2]
      exact ⟨by unfold s_kn; rw [e], rfl⟩
  · skip
    replace eK : A 66 P = 4 := eK
    refine ev_aload_n dX1_knows_0 rfl rfl ?_
    refine ev_iload_n dX1_knows_1 rfl rfl ?_
    refine ev_callV (as := [.int (nI tq)]) (st := []) dX1_knows_2 mfX1_deepAt lk_X1_39 (hX.gk hP hg) (by decide) rfl (c_X1_deepAtN G D A σ hA hX P g hP hg tq (by omega)) rfl rfl (Nat.le_of_ble_eq_true rfl) (am_hR (by omega) (by decide)) ⟨Nat.le_refl _, Nat.le_refl _⟩ ?_
    rintro _ _ ⟨rfl, rfl⟩
    refine ev_istore_n (lv' := [(0, .ref g), (1, .int (nI tq)), (2, .int (nI q)), (3, .int (A 70 (4 * P + tq)))]) dX1_knows_5 rfl (by decide) rfl ?_
    refine ev_aload_n dX1_knows_6 rfl rfl ?_
    refine ev_iconst (v := 1) dX1_knows_7 (by decide) ?_
    refine ev_callV (as := [.int 1]) (st := []) dX1_knows_8 mfX1_isOf lk_X1_43 (hX.gk hP hg) (by decide) rfl (c_X1_isOf G (D + 1) A σ hA hX P g hP hg 1 4 0 eK (by decide)) rfl rfl (Nat.le_of_ble_eq_true rfl) (am_hR (by omega) (by decide)) ⟨Nat.le_refl _, Nat.le_refl _⟩ ?_
    rintro _ _ ⟨rfl, rfl⟩
    refine ev_if_eq (tgt := 25) dX1_knows_11 (by decide) (fun _ => ?_) (fun c => absurd (by decide) c)
    refine ev_aload_n dX1_knows_25 rfl rfl ?_
    refine ev_iconst (v := 3) dX1_knows_26 (by decide) ?_
    refine ev_callV (as := [.int 3]) (st := []) dX1_knows_27 mfX1_isOf lk_X1_43 (hX.gk hP hg) (by decide) rfl (c_X1_isOf G (D + 1) A σ hA hX P g hP hg 3 4 0 eK (by decide)) rfl rfl (Nat.le_of_ble_eq_true rfl) (am_hR (by omega) (by decide)) ⟨Nat.le_refl _, Nat.le_refl _⟩ ?_
    rintro _ _ ⟨rfl, rfl⟩
    refine ev_if_eq (tgt := 39) dX1_knows_30 (by decide) (fun _ => ?_) (fun c => absurd (by decide) c)
    refine ev_aload_n dX1_knows_39 rfl rfl ?_
    refine ev_iconst (v := 4) dX1_knows_40 (by decide) ?_
    refine ev_callV (as := [.int 4]) (st := []) dX1_knows_41 mfX1_isOf lk_X1_43 (hX.gk hP hg) (by decide) rfl (c_X1_isOf G (D + 1) A σ hA hX P g hP hg 4 4 1 eK (by decide)) rfl rfl (Nat.le_of_ble_eq_true rfl) (am_hR (by omega) (by decide)) ⟨Nat.le_refl _, Nat.le_refl _⟩ ?_
    rintro _ _ ⟨rfl, rfl⟩
    refine ev_if_eq (tgt := 50) dX1_knows_44 (by decide) (fun c => absurd c (by decide)) (fun _ => ?_)
    refine ev_iinc (lv' := [(0, .ref g), (1, .int (nI tq)), (2, .int (nI q)), (3, .int ((A 70 (4 * P + tq)) + 2))]) (v := (A 70 (4 * P + tq)) + 2) dX1_knows_47 rfl rfl (by decide) rfl ?_
    refine ev_aload_n dX1_knows_50 rfl rfl ?_
    refine ev_iconst (v := 5) dX1_knows_51 (by decide) ?_
    refine ev_callV (as := [.int 5]) (st := []) dX1_knows_52 mfX1_isOf lk_X1_43 (hX.gk hP hg) (by decide) rfl (c_X1_isOf G (D + 1) A σ hA hX P g hP hg 5 4 0 eK (by decide)) rfl rfl (Nat.le_of_ble_eq_true rfl) (am_hR (by omega) (by decide)) ⟨Nat.le_refl _, Nat.le_refl _⟩ ?_
    rintro _ _ ⟨rfl, rfl⟩
    refine ev_if_eq (tgt := 69) dX1_knows_55 (by decide) (fun _ => ?_) (fun c => absurd (by decide) c)
    refine ev_iload_n dX1_knows_69 rfl rfl ?_
    refine ev_iconst (v := 0) dX1_knows_70 (by decide) ?_
    refine ev_bipush (v := 9) dX1_knows_71 (by decide) ?_
    refine ev_callSN (as := [.int ((A 70 (4 * P + tq)) + 2), .int 0, .int 9]) (st := []) dX1_knows_73 mfX6_bounded lk_X1_35 (c_X6_bounded G D σ ((A 70 (4 * P + tq)) + 2) 0 9 (by decide)) rfl rfl (Nat.le_of_ble_eq_true rfl) (am_hR (by omega) (by decide)) ⟨Nat.le_refl _, Nat.le_refl _⟩ ?_
    rintro _ _ ⟨rfl, rfl⟩
    refine ev_reti dX1_knows_76 rfl (Nat.zero_le _) (Nat.zero_le _) ?_
    have e : s_kv A P (A 71 q) (nI q) (A 70 (4 * P + sN (A 71 q))) = ((A 70 (4 * P + tq)) + 2) := by
      rw [etq, sN_n (by omega)]
      simp [s_kv, eK, ]
    exact ⟨by unfold s_kn; rw [e], rfl⟩
  · skip
    replace eK : A 66 P = 5 := eK
    refine ev_aload_n dX1_knows_0 rfl rfl ?_
    refine ev_iload_n dX1_knows_1 rfl rfl ?_
    refine ev_callV (as := [.int (nI tq)]) (st := []) dX1_knows_2 mfX1_deepAt lk_X1_39 (hX.gk hP hg) (by decide) rfl (c_X1_deepAtN G D A σ hA hX P g hP hg tq (by omega)) rfl rfl (Nat.le_of_ble_eq_true rfl) (am_hR (by omega) (by decide)) ⟨Nat.le_refl _, Nat.le_refl _⟩ ?_
    rintro _ _ ⟨rfl, rfl⟩
    refine ev_istore_n (lv' := [(0, .ref g), (1, .int (nI tq)), (2, .int (nI q)), (3, .int (A 70 (4 * P + tq)))]) dX1_knows_5 rfl (by decide) rfl ?_
    refine ev_aload_n dX1_knows_6 rfl rfl ?_
    refine ev_iconst (v := 1) dX1_knows_7 (by decide) ?_
    refine ev_callV (as := [.int 1]) (st := []) dX1_knows_8 mfX1_isOf lk_X1_43 (hX.gk hP hg) (by decide) rfl (c_X1_isOf G (D + 1) A σ hA hX P g hP hg 1 5 0 eK (by decide)) rfl rfl (Nat.le_of_ble_eq_true rfl) (am_hR (by omega) (by decide)) ⟨Nat.le_refl _, Nat.le_refl _⟩ ?_
    rintro _ _ ⟨rfl, rfl⟩
    refine ev_if_eq (tgt := 25) dX1_knows_11 (by decide) (fun _ => ?_) (fun c => absurd (by decide) c)
    refine ev_aload_n dX1_knows_25 rfl rfl ?_
    refine ev_iconst (v := 3) dX1_knows_26 (by decide) ?_
    refine ev_callV (as := [.int 3]) (st := []) dX1_knows_27 mfX1_isOf lk_X1_43 (hX.gk hP hg) (by decide) rfl (c_X1_isOf G (D + 1) A σ hA hX P g hP hg 3 5 0 eK (by decide)) rfl rfl (Nat.le_of_ble_eq_true rfl) (am_hR (by omega) (by decide)) ⟨Nat.le_refl _, Nat.le_refl _⟩ ?_
    rintro _ _ ⟨rfl, rfl⟩
    refine ev_if_eq (tgt := 39) dX1_knows_30 (by decide) (fun _ => ?_) (fun c => absurd (by decide) c)
    refine ev_aload_n dX1_knows_39 rfl rfl ?_
    refine ev_iconst (v := 4) dX1_knows_40 (by decide) ?_
    refine ev_callV (as := [.int 4]) (st := []) dX1_knows_41 mfX1_isOf lk_X1_43 (hX.gk hP hg) (by decide) rfl (c_X1_isOf G (D + 1) A σ hA hX P g hP hg 4 5 0 eK (by decide)) rfl rfl (Nat.le_of_ble_eq_true rfl) (am_hR (by omega) (by decide)) ⟨Nat.le_refl _, Nat.le_refl _⟩ ?_
    rintro _ _ ⟨rfl, rfl⟩
    refine ev_if_eq (tgt := 50) dX1_knows_44 (by decide) (fun _ => ?_) (fun c => absurd (by decide) c)
    refine ev_aload_n dX1_knows_50 rfl rfl ?_
    refine ev_iconst (v := 5) dX1_knows_51 (by decide) ?_
    refine ev_callV (as := [.int 5]) (st := []) dX1_knows_52 mfX1_isOf lk_X1_43 (hX.gk hP hg) (by decide) rfl (c_X1_isOf G (D + 1) A σ hA hX P g hP hg 5 5 1 eK (by decide)) rfl rfl (Nat.le_of_ble_eq_true rfl) (am_hR (by omega) (by decide)) ⟨Nat.le_refl _, Nat.le_refl _⟩ ?_
    rintro _ _ ⟨rfl, rfl⟩
    refine ev_if_eq (tgt := 69) dX1_knows_55 (by decide) (fun c => absurd c (by decide)) (fun _ => ?_)
    refine ev_iload_n dX1_knows_58 rfl rfl ?_
    refine ev_aload_n dX1_knows_59 rfl rfl ?_
    refine ev_getI (v := A 68 P) dX1_knows_60 fl_X1_19 (hX.gk hP hg) (hX.g1 hP hg) ?_
    refine ev_icmp_lt (tgt := 69) dX1_knows_63 (by decide) (fun c3 => ?_) (fun c3 => ?_)
    · skip
      refine ev_iload_n dX1_knows_69 rfl rfl ?_
      refine ev_iconst (v := 0) dX1_knows_70 (by decide) ?_
      refine ev_bipush (v := 9) dX1_knows_71 (by decide) ?_
      refine ev_callSN (as := [.int (A 70 (4 * P + tq)), .int 0, .int 9]) (st := []) dX1_knows_73 mfX6_bounded lk_X1_35 (c_X6_bounded G D σ (A 70 (4 * P + tq)) 0 9 (by decide)) rfl rfl (Nat.le_of_ble_eq_true rfl) (am_hR (by omega) (by decide)) ⟨Nat.le_refl _, Nat.le_refl _⟩ ?_
      rintro _ _ ⟨rfl, rfl⟩
      refine ev_reti dX1_knows_76 rfl (Nat.zero_le _) (Nat.zero_le _) ?_
      have e : s_kv A P (A 71 q) (nI q) (A 70 (4 * P + sN (A 71 q))) = (A 70 (4 * P + tq)) := by
        rw [etq, sN_n (by omega)]
        simp [s_kv, eK, c3, Int32.not_le.mpr c3]
      exact ⟨by unfold s_kn; rw [e], rfl⟩
    · skip
      refine ev_bipush (v := 9) dX1_knows_66 (by decide) ?_
      refine ev_istore_n (lv' := [(0, .ref g), (1, .int (nI tq)), (2, .int (nI q)), (3, .int 9)]) dX1_knows_68 rfl (by decide) rfl ?_
      refine ev_iload_n dX1_knows_69 rfl rfl ?_
      refine ev_iconst (v := 0) dX1_knows_70 (by decide) ?_
      refine ev_bipush (v := 9) dX1_knows_71 (by decide) ?_
      refine ev_callSN (as := [.int 9, .int 0, .int 9]) (st := []) dX1_knows_73 mfX6_bounded lk_X1_35 (c_X6_bounded G D σ 9 0 9 (by decide)) rfl rfl (Nat.le_of_ble_eq_true rfl) (am_hR (by omega) (by decide)) ⟨Nat.le_refl _, Nat.le_refl _⟩ ?_
      rintro _ _ ⟨rfl, rfl⟩
      refine ev_reti dX1_knows_76 rfl (Nat.zero_le _) (Nat.zero_le _) ?_
      have e : s_kv A P (A 71 q) (nI q) (A 70 (4 * P + sN (A 71 q))) = 9 := by
        rw [etq, sN_n (by omega)]
        simp [s_kv, eK, c3, Int32.not_lt.mp c3]
      exact ⟨by unfold s_kn; rw [e], rfl⟩

set_option maxHeartbeats 400000 in
set_option maxRecDepth 100000 in
theorem c_X1_loudAt (G : am_G) (D : Nat) (A : am_S) (σ : am_M) (hA : wf_A A) (hX : iv_X A σ) (P g : Nat) (hP : P < s_np A) (hg : σ.2.2 33 P = some g) (i : Int32) : am_Mt G (D + 1) mX1_loudAt [.ref g, .int i] σ 0 0 (am_q (.int (s_ld A P i)) σ) := by
  have b7 := wf_np7 hA
  have b8 := wf_nq8 hA
  have b6 := wf_nt6 hA
  have b61 := wf_nt1 hA
  have b160 := wf_tp160 hA
  have brl := wf_rlt hA
  refine am_of moX1_loudAt (Nat.le_of_ble_eq_true rfl) ?_
  show am_Ev G mX1_loudAt (am_R (D + 1) 0 0) 0 0 (am_q (.int (s_ld A P i)) σ) 0 [(0, .ref g), (1, .int i)] [] σ 0 0
  obtain ⟨⟨K, hK, eK⟩, -⟩ := wf_pp hA P hP
  rcases (show K = 0 ∨ K = 1 ∨ K = 2 ∨ K = 3 ∨ K = 4 ∨ K = 5 by omega) with rfl | rfl | rfl | rfl | rfl | rfl
  · skip
    replace eK : A 66 P = 0 := eK
    refine ev_aload_n dX1_loudAt_0 rfl rfl ?_
    refine ev_iconst (v := 4) dX1_loudAt_1 (by decide) ?_
    refine ev_callV (as := [.int 4]) (st := []) dX1_loudAt_2 mfX1_isOf lk_X1_43 (hX.gk hP hg) (by decide) rfl (c_X1_isOf G D A σ hA hX P g hP hg 4 0 0 eK (by decide)) rfl rfl (Nat.le_of_ble_eq_true rfl) (am_hR (by omega) (by decide)) ⟨Nat.le_refl _, Nat.le_refl _⟩ ?_
    rintro _ _ ⟨rfl, rfl⟩
    refine ev_if_eq (tgt := 18) dX1_loudAt_5 (by decide) (fun _ => ?_) (fun c => absurd (by decide) c)
    refine ev_aload_n dX1_loudAt_18 rfl rfl ?_
    refine ev_iconst (v := 2) dX1_loudAt_19 (by decide) ?_
    refine ev_callV (as := [.int 2]) (st := []) dX1_loudAt_20 mfX1_isOf lk_X1_43 (hX.gk hP hg) (by decide) rfl (c_X1_isOf G D A σ hA hX P g hP hg 2 0 0 eK (by decide)) rfl rfl (Nat.le_of_ble_eq_true rfl) (am_hR (by omega) (by decide)) ⟨Nat.le_refl _, Nat.le_refl _⟩ ?_
    rintro _ _ ⟨rfl, rfl⟩
    refine ev_if_eq (tgt := 33) dX1_loudAt_23 (by decide) (fun _ => ?_) (fun c => absurd (by decide) c)
    refine ev_aload_n dX1_loudAt_33 rfl rfl ?_
    refine ev_iconst (v := 3) dX1_loudAt_34 (by decide) ?_
    refine ev_callV (as := [.int 3]) (st := []) dX1_loudAt_35 mfX1_isOf lk_X1_43 (hX.gk hP hg) (by decide) rfl (c_X1_isOf G D A σ hA hX P g hP hg 3 0 0 eK (by decide)) rfl rfl (Nat.le_of_ble_eq_true rfl) (am_hR (by omega) (by decide)) ⟨Nat.le_refl _, Nat.le_refl _⟩ ?_
    rintro _ _ ⟨rfl, rfl⟩
    refine ev_if_eq (tgt := 52) dX1_loudAt_38 (by decide) (fun _ => ?_) (fun c => absurd (by decide) c)
    refine ev_aload_n dX1_loudAt_52 rfl rfl ?_
    refine ev_getI (v := A 67 P) dX1_loudAt_53 fl_X1_22 (hX.gk hP hg) (hX.g2 hP hg) ?_
    refine ev_reti dX1_loudAt_56 rfl (Nat.zero_le _) (Nat.zero_le _) ?_
    exact ⟨by simp [s_ld, eK, ], rfl⟩
  · skip
    replace eK : A 66 P = 1 := eK
    refine ev_aload_n dX1_loudAt_0 rfl rfl ?_
    refine ev_iconst (v := 4) dX1_loudAt_1 (by decide) ?_
    refine ev_callV (as := [.int 4]) (st := []) dX1_loudAt_2 mfX1_isOf lk_X1_43 (hX.gk hP hg) (by decide) rfl (c_X1_isOf G D A σ hA hX P g hP hg 4 1 0 eK (by decide)) rfl rfl (Nat.le_of_ble_eq_true rfl) (am_hR (by omega) (by decide)) ⟨Nat.le_refl _, Nat.le_refl _⟩ ?_
    rintro _ _ ⟨rfl, rfl⟩
    refine ev_if_eq (tgt := 18) dX1_loudAt_5 (by decide) (fun _ => ?_) (fun c => absurd (by decide) c)
    refine ev_aload_n dX1_loudAt_18 rfl rfl ?_
    refine ev_iconst (v := 2) dX1_loudAt_19 (by decide) ?_
    refine ev_callV (as := [.int 2]) (st := []) dX1_loudAt_20 mfX1_isOf lk_X1_43 (hX.gk hP hg) (by decide) rfl (c_X1_isOf G D A σ hA hX P g hP hg 2 1 0 eK (by decide)) rfl rfl (Nat.le_of_ble_eq_true rfl) (am_hR (by omega) (by decide)) ⟨Nat.le_refl _, Nat.le_refl _⟩ ?_
    rintro _ _ ⟨rfl, rfl⟩
    refine ev_if_eq (tgt := 33) dX1_loudAt_23 (by decide) (fun _ => ?_) (fun c => absurd (by decide) c)
    refine ev_aload_n dX1_loudAt_33 rfl rfl ?_
    refine ev_iconst (v := 3) dX1_loudAt_34 (by decide) ?_
    refine ev_callV (as := [.int 3]) (st := []) dX1_loudAt_35 mfX1_isOf lk_X1_43 (hX.gk hP hg) (by decide) rfl (c_X1_isOf G D A σ hA hX P g hP hg 3 1 0 eK (by decide)) rfl rfl (Nat.le_of_ble_eq_true rfl) (am_hR (by omega) (by decide)) ⟨Nat.le_refl _, Nat.le_refl _⟩ ?_
    rintro _ _ ⟨rfl, rfl⟩
    refine ev_if_eq (tgt := 52) dX1_loudAt_38 (by decide) (fun _ => ?_) (fun c => absurd (by decide) c)
    refine ev_aload_n dX1_loudAt_52 rfl rfl ?_
    refine ev_getI (v := A 67 P) dX1_loudAt_53 fl_X1_22 (hX.gk hP hg) (hX.g2 hP hg) ?_
    refine ev_reti dX1_loudAt_56 rfl (Nat.zero_le _) (Nat.zero_le _) ?_
    exact ⟨by simp [s_ld, eK, ], rfl⟩
  · skip
    replace eK : A 66 P = 2 := eK
    refine ev_aload_n dX1_loudAt_0 rfl rfl ?_
    refine ev_iconst (v := 4) dX1_loudAt_1 (by decide) ?_
    refine ev_callV (as := [.int 4]) (st := []) dX1_loudAt_2 mfX1_isOf lk_X1_43 (hX.gk hP hg) (by decide) rfl (c_X1_isOf G D A σ hA hX P g hP hg 4 2 0 eK (by decide)) rfl rfl (Nat.le_of_ble_eq_true rfl) (am_hR (by omega) (by decide)) ⟨Nat.le_refl _, Nat.le_refl _⟩ ?_
    rintro _ _ ⟨rfl, rfl⟩
    refine ev_if_eq (tgt := 18) dX1_loudAt_5 (by decide) (fun _ => ?_) (fun c => absurd (by decide) c)
    refine ev_aload_n dX1_loudAt_18 rfl rfl ?_
    refine ev_iconst (v := 2) dX1_loudAt_19 (by decide) ?_
    refine ev_callV (as := [.int 2]) (st := []) dX1_loudAt_20 mfX1_isOf lk_X1_43 (hX.gk hP hg) (by decide) rfl (c_X1_isOf G D A σ hA hX P g hP hg 2 2 1 eK (by decide)) rfl rfl (Nat.le_of_ble_eq_true rfl) (am_hR (by omega) (by decide)) ⟨Nat.le_refl _, Nat.le_refl _⟩ ?_
    rintro _ _ ⟨rfl, rfl⟩
    refine ev_if_eq (tgt := 33) dX1_loudAt_23 (by decide) (fun c => absurd c (by decide)) (fun _ => ?_)
    refine ev_aload_n dX1_loudAt_26 rfl rfl ?_
    refine ev_getI (v := A 67 P) dX1_loudAt_27 fl_X1_22 (hX.gk hP hg) (hX.g2 hP hg) ?_
    refine ev_iconst (v := 3) dX1_loudAt_30 (by decide) ?_
    refine ev_idiv (v := (A 67 P) / 3) dX1_loudAt_31 (by decide) rfl ?_
    refine ev_reti dX1_loudAt_32 rfl (Nat.zero_le _) (Nat.zero_le _) ?_
    exact ⟨by simp [s_ld, eK, ], rfl⟩
  · skip
    replace eK : A 66 P = 3 := eK
    refine ev_aload_n dX1_loudAt_0 rfl rfl ?_
    refine ev_iconst (v := 4) dX1_loudAt_1 (by decide) ?_
    refine ev_callV (as := [.int 4]) (st := []) dX1_loudAt_2 mfX1_isOf lk_X1_43 (hX.gk hP hg) (by decide) rfl (c_X1_isOf G D A σ hA hX P g hP hg 4 3 0 eK (by decide)) rfl rfl (Nat.le_of_ble_eq_true rfl) (am_hR (by omega) (by decide)) ⟨Nat.le_refl _, Nat.le_refl _⟩ ?_
    rintro _ _ ⟨rfl, rfl⟩
    refine ev_if_eq (tgt := 18) dX1_loudAt_5 (by decide) (fun _ => ?_) (fun c => absurd (by decide) c)
    refine ev_aload_n dX1_loudAt_18 rfl rfl ?_
    refine ev_iconst (v := 2) dX1_loudAt_19 (by decide) ?_
    refine ev_callV (as := [.int 2]) (st := []) dX1_loudAt_20 mfX1_isOf lk_X1_43 (hX.gk hP hg) (by decide) rfl (c_X1_isOf G D A σ hA hX P g hP hg 2 3 0 eK (by decide)) rfl rfl (Nat.le_of_ble_eq_true rfl) (am_hR (by omega) (by decide)) ⟨Nat.le_refl _, Nat.le_refl _⟩ ?_
    rintro _ _ ⟨rfl, rfl⟩
    refine ev_if_eq (tgt := 33) dX1_loudAt_23 (by decide) (fun _ => ?_) (fun c => absurd (by decide) c)
    refine ev_aload_n dX1_loudAt_33 rfl rfl ?_
    refine ev_iconst (v := 3) dX1_loudAt_34 (by decide) ?_
    refine ev_callV (as := [.int 3]) (st := []) dX1_loudAt_35 mfX1_isOf lk_X1_43 (hX.gk hP hg) (by decide) rfl (c_X1_isOf G D A σ hA hX P g hP hg 3 3 1 eK (by decide)) rfl rfl (Nat.le_of_ble_eq_true rfl) (am_hR (by omega) (by decide)) ⟨Nat.le_refl _, Nat.le_refl _⟩ ?_
    rintro _ _ ⟨rfl, rfl⟩
    refine ev_if_eq (tgt := 52) dX1_loudAt_38 (by decide) (fun c => absurd c (by decide)) (fun _ => ?_)
    refine ev_iconst (v := 2) dX1_loudAt_41 (by decide) ?_
    refine ev_aload_n dX1_loudAt_42 rfl rfl ?_
    refine ev_getI (v := A 67 P) dX1_loudAt_43 fl_X1_22 (hX.gk hP hg) (hX.g2 hP hg) ?_
    refine ev_imul (v := 2 * (A 67 P)) dX1_loudAt_46 rfl ?_
    refine ev_iconst (v := 5) dX1_loudAt_47 (by decide) ?_
    refine ev_iadd (v := (2 * (A 67 P)) + 5) dX1_loudAt_48 rfl ?_
    refine ev_goto (tgt := 56) dX1_loudAt_49 (by decide) ?_
    refine ev_reti dX1_loudAt_56 rfl (Nat.zero_le _) (Nat.zero_le _) ?_
    exact ⟨by simp [s_ld, eK, ], rfl⟩
  · skip
    replace eK : A 66 P = 4 := eK
    refine ev_aload_n dX1_loudAt_0 rfl rfl ?_
    refine ev_iconst (v := 4) dX1_loudAt_1 (by decide) ?_
    refine ev_callV (as := [.int 4]) (st := []) dX1_loudAt_2 mfX1_isOf lk_X1_43 (hX.gk hP hg) (by decide) rfl (c_X1_isOf G D A σ hA hX P g hP hg 4 4 1 eK (by decide)) rfl rfl (Nat.le_of_ble_eq_true rfl) (am_hR (by omega) (by decide)) ⟨Nat.le_refl _, Nat.le_refl _⟩ ?_
    rintro _ _ ⟨rfl, rfl⟩
    refine ev_if_eq (tgt := 18) dX1_loudAt_5 (by decide) (fun c => absurd c (by decide)) (fun _ => ?_)
    refine ev_aload_n dX1_loudAt_8 rfl rfl ?_
    refine ev_iload_n dX1_loudAt_9 rfl rfl ?_
    refine ev_callV (as := [.int i]) (st := []) dX1_loudAt_10 mfX1_isOwn lk_X1_46 (hX.gk hP hg) (by decide) rfl (c_X1_isOwn G D A σ hX P g hP hg i) rfl rfl (Nat.le_of_ble_eq_true rfl) (am_hR (by omega) (by decide)) ⟨Nat.le_refl _, Nat.le_refl _⟩ ?_
    rintro _ _ (⟨h1, rfl, rfl⟩ | ⟨h1, rfl, rfl⟩)
    · skip
      refine ev_if_ne (tgt := 18) dX1_loudAt_13 (by decide) (fun _ => ?_) (fun c => absurd c (by decide))
      refine ev_aload_n dX1_loudAt_18 rfl rfl ?_
      refine ev_iconst (v := 2) dX1_loudAt_19 (by decide) ?_
      refine ev_callV (as := [.int 2]) (st := []) dX1_loudAt_20 mfX1_isOf lk_X1_43 (hX.gk hP hg) (by decide) rfl (c_X1_isOf G D A σ hA hX P g hP hg 2 4 1 eK (by decide)) rfl rfl (Nat.le_of_ble_eq_true rfl) (am_hR (by omega) (by decide)) ⟨Nat.le_refl _, Nat.le_refl _⟩ ?_
      rintro _ _ ⟨rfl, rfl⟩
      refine ev_if_eq (tgt := 33) dX1_loudAt_23 (by decide) (fun c => absurd c (by decide)) (fun _ => ?_)
      refine ev_aload_n dX1_loudAt_26 rfl rfl ?_
      refine ev_getI (v := A 67 P) dX1_loudAt_27 fl_X1_22 (hX.gk hP hg) (hX.g2 hP hg) ?_
      refine ev_iconst (v := 3) dX1_loudAt_30 (by decide) ?_
      refine ev_idiv (v := (A 67 P) / 3) dX1_loudAt_31 (by decide) rfl ?_
      refine ev_reti dX1_loudAt_32 rfl (Nat.zero_le _) (Nat.zero_le _) ?_
      exact ⟨by simp [s_ld, eK, h1], rfl⟩
    · skip
      refine ev_if_ne (tgt := 18) dX1_loudAt_13 (by decide) (fun c => absurd (by decide) c) (fun _ => ?_)
      refine ev_iconst (v := 0) dX1_loudAt_16 (by decide) ?_
      refine ev_reti dX1_loudAt_17 rfl (Nat.zero_le _) (Nat.zero_le _) ?_
      exact ⟨by simp [s_ld, eK, h1], rfl⟩
  · skip
    replace eK : A 66 P = 5 := eK
    refine ev_aload_n dX1_loudAt_0 rfl rfl ?_
    refine ev_iconst (v := 4) dX1_loudAt_1 (by decide) ?_
    refine ev_callV (as := [.int 4]) (st := []) dX1_loudAt_2 mfX1_isOf lk_X1_43 (hX.gk hP hg) (by decide) rfl (c_X1_isOf G D A σ hA hX P g hP hg 4 5 0 eK (by decide)) rfl rfl (Nat.le_of_ble_eq_true rfl) (am_hR (by omega) (by decide)) ⟨Nat.le_refl _, Nat.le_refl _⟩ ?_
    rintro _ _ ⟨rfl, rfl⟩
    refine ev_if_eq (tgt := 18) dX1_loudAt_5 (by decide) (fun _ => ?_) (fun c => absurd (by decide) c)
    refine ev_aload_n dX1_loudAt_18 rfl rfl ?_
    refine ev_iconst (v := 2) dX1_loudAt_19 (by decide) ?_
    refine ev_callV (as := [.int 2]) (st := []) dX1_loudAt_20 mfX1_isOf lk_X1_43 (hX.gk hP hg) (by decide) rfl (c_X1_isOf G D A σ hA hX P g hP hg 2 5 0 eK (by decide)) rfl rfl (Nat.le_of_ble_eq_true rfl) (am_hR (by omega) (by decide)) ⟨Nat.le_refl _, Nat.le_refl _⟩ ?_
    rintro _ _ ⟨rfl, rfl⟩
    refine ev_if_eq (tgt := 33) dX1_loudAt_23 (by decide) (fun _ => ?_) (fun c => absurd (by decide) c)
    refine ev_aload_n dX1_loudAt_33 rfl rfl ?_
    refine ev_iconst (v := 3) dX1_loudAt_34 (by decide) ?_
    refine ev_callV (as := [.int 3]) (st := []) dX1_loudAt_35 mfX1_isOf lk_X1_43 (hX.gk hP hg) (by decide) rfl (c_X1_isOf G D A σ hA hX P g hP hg 3 5 0 eK (by decide)) rfl rfl (Nat.le_of_ble_eq_true rfl) (am_hR (by omega) (by decide)) ⟨Nat.le_refl _, Nat.le_refl _⟩ ?_
    rintro _ _ ⟨rfl, rfl⟩
    refine ev_if_eq (tgt := 52) dX1_loudAt_38 (by decide) (fun _ => ?_) (fun c => absurd (by decide) c)
    refine ev_aload_n dX1_loudAt_52 rfl rfl ?_
    refine ev_getI (v := A 67 P) dX1_loudAt_53 fl_X1_22 (hX.gk hP hg) (hX.g2 hP hg) ?_
    refine ev_reti dX1_loudAt_56 rfl (Nat.zero_le _) (Nat.zero_le _) ?_
    exact ⟨by simp [s_ld, eK, ], rfl⟩

set_option maxHeartbeats 400000 in
set_option maxRecDepth 100000 in
theorem c_X1_deepestTopic (G : am_G) (D : Nat) (A : am_S) (σ : am_M) (hA : wf_A A) (hX : iv_X A σ) (P g : Nat) (hP : P < s_np A) (hg : σ.2.2 33 P = some g) : am_Mt G D mX1_deepestTopic [.ref g] σ 0 0 (am_q (.int (nI (s_dt A P))) σ) := by
  have b7 := wf_np7 hA
  have b8 := wf_nq8 hA
  have b6 := wf_nt6 hA
  have b61 := wf_nt1 hA
  have b160 := wf_tp160 hA
  have brl := wf_rlt hA
  refine am_of moX1_deepestTopic (Nat.le_of_ble_eq_true rfl) ?_
  show am_Ev G mX1_deepestTopic (am_R D 0 0) 0 0 (am_q (.int (nI (s_dt A P))) σ) 0 [(0, .ref g)] [] σ 0 0
  refine ev_iconst (v := 0) dX1_deepestTopic_0 (by decide) ?_
  refine ev_istore_n (lv' := [(0, .ref g), (1, .int 0)]) dX1_deepestTopic_1 rfl (by decide) rfl ?_
  refine ev_iconst (v := 1) dX1_deepestTopic_2 (by decide) ?_
  refine ev_istore_n (lv' := [(0, .ref g), (1, .int 0), (2, .int 1)]) dX1_deepestTopic_3 rfl (by decide) rfl ?_
  refine ev_iload_n dX1_deepestTopic_4 rfl rfl ?_
  refine ev_iconst (v := 4) dX1_deepestTopic_5 (by decide) ?_
  refine ev_icmp_ge (tgt := 32) dX1_deepestTopic_6 (by decide) (fun c => absurd c (by decide)) (fun _ => ?_)
  refine ev_aload_n dX1_deepestTopic_9 rfl rfl ?_
  refine ev_getR (b := (g + 1)) dX1_deepestTopic_10 fl_X1_9 (hX.gk hP hg) (hX.gd hP hg) ?_
  refine ev_iload_n dX1_deepestTopic_13 rfl rfl ?_
  refine ev_iald (v := A 70 (4 * P + 1)) dX1_deepestTopic_14 (hX.gl hP hg) (am_ixn (j := 1) (by decide) (by decide)) (hX.gj hP hg (by omega)) ?_
  refine ev_aload_n dX1_deepestTopic_15 rfl rfl ?_
  refine ev_getR (b := (g + 1)) dX1_deepestTopic_16 fl_X1_9 (hX.gk hP hg) (hX.gd hP hg) ?_
  refine ev_iload_n dX1_deepestTopic_19 rfl rfl ?_
  refine ev_iald (v := A 70 (4 * P + 0)) dX1_deepestTopic_20 (hX.gl hP hg) (am_ixn (j := 0) (by decide) (by decide)) (hX.gj hP hg (by omega)) ?_
  refine ev_icmp_le (tgt := 26) dX1_deepestTopic_21 (by decide) (fun c1 => ?_) (fun c1 => ?_)
  · skip
    refine ev_iinc (lv' := [(0, .ref g), (1, .int 0), (2, .int 2)]) (v := 2) dX1_deepestTopic_26 rfl (by decide) (by decide) rfl ?_
    refine ev_goto (tgt := 4) dX1_deepestTopic_29 (by decide) ?_
    refine ev_iload_n dX1_deepestTopic_4 rfl rfl ?_
    refine ev_iconst (v := 4) dX1_deepestTopic_5 (by decide) ?_
    refine ev_icmp_ge (tgt := 32) dX1_deepestTopic_6 (by decide) (fun c => absurd c (by decide)) (fun _ => ?_)
    refine ev_aload_n dX1_deepestTopic_9 rfl rfl ?_
    refine ev_getR (b := (g + 1)) dX1_deepestTopic_10 fl_X1_9 (hX.gk hP hg) (hX.gd hP hg) ?_
    refine ev_iload_n dX1_deepestTopic_13 rfl rfl ?_
    refine ev_iald (v := A 70 (4 * P + 2)) dX1_deepestTopic_14 (hX.gl hP hg) (am_ixn (j := 2) (by decide) (by decide)) (hX.gj hP hg (by omega)) ?_
    refine ev_aload_n dX1_deepestTopic_15 rfl rfl ?_
    refine ev_getR (b := (g + 1)) dX1_deepestTopic_16 fl_X1_9 (hX.gk hP hg) (hX.gd hP hg) ?_
    refine ev_iload_n dX1_deepestTopic_19 rfl rfl ?_
    refine ev_iald (v := A 70 (4 * P + 0)) dX1_deepestTopic_20 (hX.gl hP hg) (am_ixn (j := 0) (by decide) (by decide)) (hX.gj hP hg (by omega)) ?_
    refine ev_icmp_le (tgt := 26) dX1_deepestTopic_21 (by decide) (fun c2 => ?_) (fun c2 => ?_)
    · skip
      refine ev_iinc (lv' := [(0, .ref g), (1, .int 0), (2, .int 3)]) (v := 3) dX1_deepestTopic_26 rfl (by decide) (by decide) rfl ?_
      refine ev_goto (tgt := 4) dX1_deepestTopic_29 (by decide) ?_
      refine ev_iload_n dX1_deepestTopic_4 rfl rfl ?_
      refine ev_iconst (v := 4) dX1_deepestTopic_5 (by decide) ?_
      refine ev_icmp_ge (tgt := 32) dX1_deepestTopic_6 (by decide) (fun c => absurd c (by decide)) (fun _ => ?_)
      refine ev_aload_n dX1_deepestTopic_9 rfl rfl ?_
      refine ev_getR (b := (g + 1)) dX1_deepestTopic_10 fl_X1_9 (hX.gk hP hg) (hX.gd hP hg) ?_
      refine ev_iload_n dX1_deepestTopic_13 rfl rfl ?_
      refine ev_iald (v := A 70 (4 * P + 3)) dX1_deepestTopic_14 (hX.gl hP hg) (am_ixn (j := 3) (by decide) (by decide)) (hX.gj hP hg (by omega)) ?_
      refine ev_aload_n dX1_deepestTopic_15 rfl rfl ?_
      refine ev_getR (b := (g + 1)) dX1_deepestTopic_16 fl_X1_9 (hX.gk hP hg) (hX.gd hP hg) ?_
      refine ev_iload_n dX1_deepestTopic_19 rfl rfl ?_
      refine ev_iald (v := A 70 (4 * P + 0)) dX1_deepestTopic_20 (hX.gl hP hg) (am_ixn (j := 0) (by decide) (by decide)) (hX.gj hP hg (by omega)) ?_
      refine ev_icmp_le (tgt := 26) dX1_deepestTopic_21 (by decide) (fun c3 => ?_) (fun c3 => ?_)
      · skip
        refine ev_iinc (lv' := [(0, .ref g), (1, .int 0), (2, .int 4)]) (v := 4) dX1_deepestTopic_26 rfl (by decide) (by decide) rfl ?_
        refine ev_goto (tgt := 4) dX1_deepestTopic_29 (by decide) ?_
        refine ev_iload_n dX1_deepestTopic_4 rfl rfl ?_
        refine ev_iconst (v := 4) dX1_deepestTopic_5 (by decide) ?_
        refine ev_icmp_ge (tgt := 32) dX1_deepestTopic_6 (by decide) (fun _ => ?_) (fun c => absurd (by decide) c)
        refine ev_iload_n dX1_deepestTopic_32 rfl rfl ?_
        refine ev_reti dX1_deepestTopic_33 rfl (Nat.zero_le _) (Nat.zero_le _) ?_
        have e1 : s_d1 A P = 0 := by unfold s_d1; exact if_neg (Int32.not_lt.mpr c1)
        have e2 : s_d2 A P = 0 := by unfold s_d2; rw [e1]; exact if_neg (Int32.not_lt.mpr c2)
        have e3 : s_dt A P = 0 := by unfold s_dt; rw [e2]; exact if_neg (Int32.not_lt.mpr c3)
        exact ⟨by rw [e3]; rfl, rfl⟩
      · skip
        refine ev_iload_n dX1_deepestTopic_24 rfl rfl ?_
        refine ev_istore_n (lv' := [(0, .ref g), (1, .int 3), (2, .int 3)]) dX1_deepestTopic_25 rfl (by decide) rfl ?_
        refine ev_iinc (lv' := [(0, .ref g), (1, .int 3), (2, .int 4)]) (v := 4) dX1_deepestTopic_26 rfl (by decide) (by decide) rfl ?_
        refine ev_goto (tgt := 4) dX1_deepestTopic_29 (by decide) ?_
        refine ev_iload_n dX1_deepestTopic_4 rfl rfl ?_
        refine ev_iconst (v := 4) dX1_deepestTopic_5 (by decide) ?_
        refine ev_icmp_ge (tgt := 32) dX1_deepestTopic_6 (by decide) (fun _ => ?_) (fun c => absurd (by decide) c)
        refine ev_iload_n dX1_deepestTopic_32 rfl rfl ?_
        refine ev_reti dX1_deepestTopic_33 rfl (Nat.zero_le _) (Nat.zero_le _) ?_
        have e1 : s_d1 A P = 0 := by unfold s_d1; exact if_neg (Int32.not_lt.mpr c1)
        have e2 : s_d2 A P = 0 := by unfold s_d2; rw [e1]; exact if_neg (Int32.not_lt.mpr c2)
        have e3 : s_dt A P = 3 := by unfold s_dt; rw [e2]; exact if_pos (Int32.not_le.mp c3)
        exact ⟨by rw [e3]; rfl, rfl⟩
    · skip
      refine ev_iload_n dX1_deepestTopic_24 rfl rfl ?_
      refine ev_istore_n (lv' := [(0, .ref g), (1, .int 2), (2, .int 2)]) dX1_deepestTopic_25 rfl (by decide) rfl ?_
      refine ev_iinc (lv' := [(0, .ref g), (1, .int 2), (2, .int 3)]) (v := 3) dX1_deepestTopic_26 rfl (by decide) (by decide) rfl ?_
      refine ev_goto (tgt := 4) dX1_deepestTopic_29 (by decide) ?_
      refine ev_iload_n dX1_deepestTopic_4 rfl rfl ?_
      refine ev_iconst (v := 4) dX1_deepestTopic_5 (by decide) ?_
      refine ev_icmp_ge (tgt := 32) dX1_deepestTopic_6 (by decide) (fun c => absurd c (by decide)) (fun _ => ?_)
      refine ev_aload_n dX1_deepestTopic_9 rfl rfl ?_
      refine ev_getR (b := (g + 1)) dX1_deepestTopic_10 fl_X1_9 (hX.gk hP hg) (hX.gd hP hg) ?_
      refine ev_iload_n dX1_deepestTopic_13 rfl rfl ?_
      refine ev_iald (v := A 70 (4 * P + 3)) dX1_deepestTopic_14 (hX.gl hP hg) (am_ixn (j := 3) (by decide) (by decide)) (hX.gj hP hg (by omega)) ?_
      refine ev_aload_n dX1_deepestTopic_15 rfl rfl ?_
      refine ev_getR (b := (g + 1)) dX1_deepestTopic_16 fl_X1_9 (hX.gk hP hg) (hX.gd hP hg) ?_
      refine ev_iload_n dX1_deepestTopic_19 rfl rfl ?_
      refine ev_iald (v := A 70 (4 * P + 2)) dX1_deepestTopic_20 (hX.gl hP hg) (am_ixn (j := 2) (by decide) (by decide)) (hX.gj hP hg (by omega)) ?_
      refine ev_icmp_le (tgt := 26) dX1_deepestTopic_21 (by decide) (fun c4 => ?_) (fun c4 => ?_)
      · skip
        refine ev_iinc (lv' := [(0, .ref g), (1, .int 2), (2, .int 4)]) (v := 4) dX1_deepestTopic_26 rfl (by decide) (by decide) rfl ?_
        refine ev_goto (tgt := 4) dX1_deepestTopic_29 (by decide) ?_
        refine ev_iload_n dX1_deepestTopic_4 rfl rfl ?_
        refine ev_iconst (v := 4) dX1_deepestTopic_5 (by decide) ?_
        refine ev_icmp_ge (tgt := 32) dX1_deepestTopic_6 (by decide) (fun _ => ?_) (fun c => absurd (by decide) c)
        refine ev_iload_n dX1_deepestTopic_32 rfl rfl ?_
        refine ev_reti dX1_deepestTopic_33 rfl (Nat.zero_le _) (Nat.zero_le _) ?_
        have e1 : s_d1 A P = 0 := by unfold s_d1; exact if_neg (Int32.not_lt.mpr c1)
        have e2 : s_d2 A P = 2 := by unfold s_d2; rw [e1]; exact if_pos (Int32.not_le.mp c2)
        have e3 : s_dt A P = 2 := by unfold s_dt; rw [e2]; exact if_neg (Int32.not_lt.mpr c4)
        exact ⟨by rw [e3]; rfl, rfl⟩
      · skip
        refine ev_iload_n dX1_deepestTopic_24 rfl rfl ?_
        refine ev_istore_n (lv' := [(0, .ref g), (1, .int 3), (2, .int 3)]) dX1_deepestTopic_25 rfl (by decide) rfl ?_
        refine ev_iinc (lv' := [(0, .ref g), (1, .int 3), (2, .int 4)]) (v := 4) dX1_deepestTopic_26 rfl (by decide) (by decide) rfl ?_
        refine ev_goto (tgt := 4) dX1_deepestTopic_29 (by decide) ?_
        refine ev_iload_n dX1_deepestTopic_4 rfl rfl ?_
        refine ev_iconst (v := 4) dX1_deepestTopic_5 (by decide) ?_
        refine ev_icmp_ge (tgt := 32) dX1_deepestTopic_6 (by decide) (fun _ => ?_) (fun c => absurd (by decide) c)
        refine ev_iload_n dX1_deepestTopic_32 rfl rfl ?_
        refine ev_reti dX1_deepestTopic_33 rfl (Nat.zero_le _) (Nat.zero_le _) ?_
        have e1 : s_d1 A P = 0 := by unfold s_d1; exact if_neg (Int32.not_lt.mpr c1)
        have e2 : s_d2 A P = 2 := by unfold s_d2; rw [e1]; exact if_pos (Int32.not_le.mp c2)
        have e3 : s_dt A P = 3 := by unfold s_dt; rw [e2]; exact if_pos (Int32.not_le.mp c4)
        exact ⟨by rw [e3]; rfl, rfl⟩
  · skip
    refine ev_iload_n dX1_deepestTopic_24 rfl rfl ?_
    refine ev_istore_n (lv' := [(0, .ref g), (1, .int 1), (2, .int 1)]) dX1_deepestTopic_25 rfl (by decide) rfl ?_
    refine ev_iinc (lv' := [(0, .ref g), (1, .int 1), (2, .int 2)]) (v := 2) dX1_deepestTopic_26 rfl (by decide) (by decide) rfl ?_
    refine ev_goto (tgt := 4) dX1_deepestTopic_29 (by decide) ?_
    refine ev_iload_n dX1_deepestTopic_4 rfl rfl ?_
    refine ev_iconst (v := 4) dX1_deepestTopic_5 (by decide) ?_
    refine ev_icmp_ge (tgt := 32) dX1_deepestTopic_6 (by decide) (fun c => absurd c (by decide)) (fun _ => ?_)
    refine ev_aload_n dX1_deepestTopic_9 rfl rfl ?_
    refine ev_getR (b := (g + 1)) dX1_deepestTopic_10 fl_X1_9 (hX.gk hP hg) (hX.gd hP hg) ?_
    refine ev_iload_n dX1_deepestTopic_13 rfl rfl ?_
    refine ev_iald (v := A 70 (4 * P + 2)) dX1_deepestTopic_14 (hX.gl hP hg) (am_ixn (j := 2) (by decide) (by decide)) (hX.gj hP hg (by omega)) ?_
    refine ev_aload_n dX1_deepestTopic_15 rfl rfl ?_
    refine ev_getR (b := (g + 1)) dX1_deepestTopic_16 fl_X1_9 (hX.gk hP hg) (hX.gd hP hg) ?_
    refine ev_iload_n dX1_deepestTopic_19 rfl rfl ?_
    refine ev_iald (v := A 70 (4 * P + 1)) dX1_deepestTopic_20 (hX.gl hP hg) (am_ixn (j := 1) (by decide) (by decide)) (hX.gj hP hg (by omega)) ?_
    refine ev_icmp_le (tgt := 26) dX1_deepestTopic_21 (by decide) (fun c5 => ?_) (fun c5 => ?_)
    · skip
      refine ev_iinc (lv' := [(0, .ref g), (1, .int 1), (2, .int 3)]) (v := 3) dX1_deepestTopic_26 rfl (by decide) (by decide) rfl ?_
      refine ev_goto (tgt := 4) dX1_deepestTopic_29 (by decide) ?_
      refine ev_iload_n dX1_deepestTopic_4 rfl rfl ?_
      refine ev_iconst (v := 4) dX1_deepestTopic_5 (by decide) ?_
      refine ev_icmp_ge (tgt := 32) dX1_deepestTopic_6 (by decide) (fun c => absurd c (by decide)) (fun _ => ?_)
      refine ev_aload_n dX1_deepestTopic_9 rfl rfl ?_
      refine ev_getR (b := (g + 1)) dX1_deepestTopic_10 fl_X1_9 (hX.gk hP hg) (hX.gd hP hg) ?_
      refine ev_iload_n dX1_deepestTopic_13 rfl rfl ?_
      refine ev_iald (v := A 70 (4 * P + 3)) dX1_deepestTopic_14 (hX.gl hP hg) (am_ixn (j := 3) (by decide) (by decide)) (hX.gj hP hg (by omega)) ?_
      refine ev_aload_n dX1_deepestTopic_15 rfl rfl ?_
      refine ev_getR (b := (g + 1)) dX1_deepestTopic_16 fl_X1_9 (hX.gk hP hg) (hX.gd hP hg) ?_
      refine ev_iload_n dX1_deepestTopic_19 rfl rfl ?_
      refine ev_iald (v := A 70 (4 * P + 1)) dX1_deepestTopic_20 (hX.gl hP hg) (am_ixn (j := 1) (by decide) (by decide)) (hX.gj hP hg (by omega)) ?_
      refine ev_icmp_le (tgt := 26) dX1_deepestTopic_21 (by decide) (fun c6 => ?_) (fun c6 => ?_)
      · skip
        refine ev_iinc (lv' := [(0, .ref g), (1, .int 1), (2, .int 4)]) (v := 4) dX1_deepestTopic_26 rfl (by decide) (by decide) rfl ?_
        refine ev_goto (tgt := 4) dX1_deepestTopic_29 (by decide) ?_
        refine ev_iload_n dX1_deepestTopic_4 rfl rfl ?_
        refine ev_iconst (v := 4) dX1_deepestTopic_5 (by decide) ?_
        refine ev_icmp_ge (tgt := 32) dX1_deepestTopic_6 (by decide) (fun _ => ?_) (fun c => absurd (by decide) c)
        refine ev_iload_n dX1_deepestTopic_32 rfl rfl ?_
        refine ev_reti dX1_deepestTopic_33 rfl (Nat.zero_le _) (Nat.zero_le _) ?_
        have e1 : s_d1 A P = 1 := by unfold s_d1; exact if_pos (Int32.not_le.mp c1)
        have e2 : s_d2 A P = 1 := by unfold s_d2; rw [e1]; exact if_neg (Int32.not_lt.mpr c5)
        have e3 : s_dt A P = 1 := by unfold s_dt; rw [e2]; exact if_neg (Int32.not_lt.mpr c6)
        exact ⟨by rw [e3]; rfl, rfl⟩
      · skip
        refine ev_iload_n dX1_deepestTopic_24 rfl rfl ?_
        refine ev_istore_n (lv' := [(0, .ref g), (1, .int 3), (2, .int 3)]) dX1_deepestTopic_25 rfl (by decide) rfl ?_
        refine ev_iinc (lv' := [(0, .ref g), (1, .int 3), (2, .int 4)]) (v := 4) dX1_deepestTopic_26 rfl (by decide) (by decide) rfl ?_
        refine ev_goto (tgt := 4) dX1_deepestTopic_29 (by decide) ?_
        refine ev_iload_n dX1_deepestTopic_4 rfl rfl ?_
        refine ev_iconst (v := 4) dX1_deepestTopic_5 (by decide) ?_
        refine ev_icmp_ge (tgt := 32) dX1_deepestTopic_6 (by decide) (fun _ => ?_) (fun c => absurd (by decide) c)
        refine ev_iload_n dX1_deepestTopic_32 rfl rfl ?_
        refine ev_reti dX1_deepestTopic_33 rfl (Nat.zero_le _) (Nat.zero_le _) ?_
        have e1 : s_d1 A P = 1 := by unfold s_d1; exact if_pos (Int32.not_le.mp c1)
        have e2 : s_d2 A P = 1 := by unfold s_d2; rw [e1]; exact if_neg (Int32.not_lt.mpr c5)
        have e3 : s_dt A P = 3 := by unfold s_dt; rw [e2]; exact if_pos (Int32.not_le.mp c6)
        exact ⟨by rw [e3]; rfl, rfl⟩
    · skip
      refine ev_iload_n dX1_deepestTopic_24 rfl rfl ?_
      refine ev_istore_n (lv' := [(0, .ref g), (1, .int 2), (2, .int 2)]) dX1_deepestTopic_25 rfl (by decide) rfl ?_
      refine ev_iinc (lv' := [(0, .ref g), (1, .int 2), (2, .int 3)]) (v := 3) dX1_deepestTopic_26 rfl (by decide) (by decide) rfl ?_
      refine ev_goto (tgt := 4) dX1_deepestTopic_29 (by decide) ?_
      refine ev_iload_n dX1_deepestTopic_4 rfl rfl ?_
      refine ev_iconst (v := 4) dX1_deepestTopic_5 (by decide) ?_
      refine ev_icmp_ge (tgt := 32) dX1_deepestTopic_6 (by decide) (fun c => absurd c (by decide)) (fun _ => ?_)
      refine ev_aload_n dX1_deepestTopic_9 rfl rfl ?_
      refine ev_getR (b := (g + 1)) dX1_deepestTopic_10 fl_X1_9 (hX.gk hP hg) (hX.gd hP hg) ?_
      refine ev_iload_n dX1_deepestTopic_13 rfl rfl ?_
      refine ev_iald (v := A 70 (4 * P + 3)) dX1_deepestTopic_14 (hX.gl hP hg) (am_ixn (j := 3) (by decide) (by decide)) (hX.gj hP hg (by omega)) ?_
      refine ev_aload_n dX1_deepestTopic_15 rfl rfl ?_
      refine ev_getR (b := (g + 1)) dX1_deepestTopic_16 fl_X1_9 (hX.gk hP hg) (hX.gd hP hg) ?_
      refine ev_iload_n dX1_deepestTopic_19 rfl rfl ?_
      refine ev_iald (v := A 70 (4 * P + 2)) dX1_deepestTopic_20 (hX.gl hP hg) (am_ixn (j := 2) (by decide) (by decide)) (hX.gj hP hg (by omega)) ?_
      refine ev_icmp_le (tgt := 26) dX1_deepestTopic_21 (by decide) (fun c7 => ?_) (fun c7 => ?_)
      · skip
        refine ev_iinc (lv' := [(0, .ref g), (1, .int 2), (2, .int 4)]) (v := 4) dX1_deepestTopic_26 rfl (by decide) (by decide) rfl ?_
        refine ev_goto (tgt := 4) dX1_deepestTopic_29 (by decide) ?_
        refine ev_iload_n dX1_deepestTopic_4 rfl rfl ?_
        refine ev_iconst (v := 4) dX1_deepestTopic_5 (by decide) ?_
        refine ev_icmp_ge (tgt := 32) dX1_deepestTopic_6 (by decide) (fun _ => ?_) (fun c => absurd (by decide) c)
        refine ev_iload_n dX1_deepestTopic_32 rfl rfl ?_
        refine ev_reti dX1_deepestTopic_33 rfl (Nat.zero_le _) (Nat.zero_le _) ?_
        have e1 : s_d1 A P = 1 := by unfold s_d1; exact if_pos (Int32.not_le.mp c1)
        have e2 : s_d2 A P = 2 := by unfold s_d2; rw [e1]; exact if_pos (Int32.not_le.mp c5)
        have e3 : s_dt A P = 2 := by unfold s_dt; rw [e2]; exact if_neg (Int32.not_lt.mpr c7)
        exact ⟨by rw [e3]; rfl, rfl⟩
      · skip
        refine ev_iload_n dX1_deepestTopic_24 rfl rfl ?_
        refine ev_istore_n (lv' := [(0, .ref g), (1, .int 3), (2, .int 3)]) dX1_deepestTopic_25 rfl (by decide) rfl ?_
        refine ev_iinc (lv' := [(0, .ref g), (1, .int 3), (2, .int 4)]) (v := 4) dX1_deepestTopic_26 rfl (by decide) (by decide) rfl ?_
        refine ev_goto (tgt := 4) dX1_deepestTopic_29 (by decide) ?_
        refine ev_iload_n dX1_deepestTopic_4 rfl rfl ?_
        refine ev_iconst (v := 4) dX1_deepestTopic_5 (by decide) ?_
        refine ev_icmp_ge (tgt := 32) dX1_deepestTopic_6 (by decide) (fun _ => ?_) (fun c => absurd (by decide) c)
        refine ev_iload_n dX1_deepestTopic_32 rfl rfl ?_
        refine ev_reti dX1_deepestTopic_33 rfl (Nat.zero_le _) (Nat.zero_le _) ?_
        have e1 : s_d1 A P = 1 := by unfold s_d1; exact if_pos (Int32.not_le.mp c1)
        have e2 : s_d2 A P = 2 := by unfold s_d2; rw [e1]; exact if_pos (Int32.not_le.mp c5)
        have e3 : s_dt A P = 3 := by unfold s_dt; rw [e2]; exact if_pos (Int32.not_le.mp c7)
        exact ⟨by rw [e3]; rfl, rfl⟩

