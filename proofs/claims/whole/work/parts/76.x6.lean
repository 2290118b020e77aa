/-! the class: sheets' readers, changes of places, costs, lowest terms -/
theorem ws_z {A : am_S} {S : Nat} (hA : wf_A A) (hS : S < 4) : A 81 S = nI (sN (A 81 S)) ∧ sN (A 81 S) ≤ 40 := by
  obtain ⟨z, hz, e⟩ := (wf_ss hA S hS).2
  rw [e, sN_n (by omega)]
  exact ⟨rfl, by omega⟩
/-- an array filled up -/
def am_fi (σ : am_M) (a : Nat) (v : Int32) : Nat → am_M
  | 0 => σ
  | n + 1 => am_sI (am_fi σ a v n) a n v
theorem am_fi1 {σ : am_M} {a : Nat} {v : Int32} : ∀ n, (am_fi σ a v n).1 = σ.1 ∧ (am_fi σ a v n).2.2 = σ.2.2
  | 0 => ⟨rfl, rfl⟩
  | n + 1 => am_fi1 n
theorem iv_X.fl {A : am_S} {σ : am_M} {s : Nat} (hs : s < 4) (h : iv_X A σ) : ∀ n, n ≤ 40 → iv_X (s_s0 A s n) (am_fi σ (43 + 2 * s) 0 n) := by
  intro n
  induction n with
  | zero => intro _; exact h
  | succ n ih => intro hn; exact iv_X.wsn hs (by omega) (ih (by omega))
theorem fr_C.fl {σ τ : am_M} {a : Nat} {v : Int32} (ha : ¬ ((a = 60 ∨ 65 ≤ a) ∧ a < 89)) (h : fr_C σ τ) : ∀ n, fr_C σ (am_fi τ a v n) := by
  intro n
  induction n with
  | zero => exact h
  | succ n ih => exact fr_C.wr ha ih
set_option maxHeartbeats 400000 in
set_option maxRecDepth 100000 in
theorem c_X3_isMissing (G : am_G) (D : Nat) (A : am_S) (σ : am_M) (hX : iv_X A σ) (S : Nat) (hS : S < 4) : am_Mt G D mX3_isMissing [.ref (42 + 2 * S)] σ 0 0 (am_zq (A 80 S = -1) σ) := by
  refine am_of moX3_isMissing (Nat.le_of_ble_eq_true rfl) ?_
  show am_Ev G mX3_isMissing (am_R D 0 0) 0 0 (am_zq (A 80 S = -1) σ) 0 [(0, .ref (42 + 2 * S))] [] σ 0 0
  refine ev_aload_n dX3_isMissing_0 rfl rfl ?_
  refine ev_getI (v := A 80 S) dX3_isMissing_1 fl_X3_13 (ly_s hX.ly hS).2.1 (hX.s1 hS) ?_
  refine ev_iconst (v := (-1)) dX3_isMissing_4 (by decide) ?_
  refine ev_icmp_ne (tgt := 12) dX3_isMissing_5 (by decide) (fun c1 => ?_) (fun c1 => ?_)
  · skip
    refine ev_iconst (v := 0) dX3_isMissing_12 (by decide) ?_
    refine ev_retz dX3_isMissing_13 rfl (Or.inl rfl) (Nat.zero_le _) (Nat.zero_le _) ?_
    exact Or.inr ⟨c1, rfl, rfl⟩
  · skip
    refine ev_iconst (v := 1) dX3_isMissing_8 (by decide) ?_
    refine ev_goto (tgt := 13) dX3_isMissing_9 (by decide) ?_
    refine ev_retz dX3_isMissing_13 rfl (Or.inr rfl) (Nat.zero_le _) (Nat.zero_le _) ?_
    exact Or.inl ⟨c1, rfl, rfl⟩

set_option maxHeartbeats 400000 in
set_option maxRecDepth 100000 in
theorem c_X3_has (G : am_G) (D : Nat) (A : am_S) (σ : am_M) (hA : wf_A A) (hX : iv_X A σ) (S : Nat) (hS : S < 4) (i : Int32) : am_Mt G D mX3_has [.ref (42 + 2 * S), .int i] σ 0 0 (am_zq (am_rg i (sN (A 81 S))) σ) := by
  have b7 := wf_np7 hA
  have b8 := wf_nq8 hA
  have b6 := wf_nt6 hA
  have b61 := wf_nt1 hA
  have b160 := wf_tp160 hA
  have brl := wf_rlt hA
  refine am_of moX3_has (Nat.le_of_ble_eq_true rfl) ?_
  show am_Ev G mX3_has (am_R D 0 0) 0 0 (am_zq (am_rg i (sN (A 81 S))) σ) 0 [(0, .ref (42 + 2 * S)), (1, .int i)] [] σ 0 0
  have hz40 := (ws_z hA hS).2
  refine ev_iload_n dX3_has_0 rfl rfl ?_
  refine ev_if_lt (tgt := 16) dX3_has_1 (by decide) (fun c1 => ?_) (fun c1 => ?_)
  · skip
    refine ev_iconst (v := 0) dX3_has_16 (by decide) ?_
    refine ev_retz dX3_has_17 rfl (Or.inl rfl) (Nat.zero_le _) (Nat.zero_le _) ?_
    exact Or.inr ⟨am_rgn (by omega) c1, rfl, rfl⟩
  · skip
    refine ev_iload_n dX3_has_4 rfl rfl ?_
    refine ev_aload_n dX3_has_5 rfl rfl ?_
    refine ev_getI (v := nI (sN (A 81 S))) dX3_has_6 fl_X3_23 (ly_s hX.ly hS).2.1 ((hX.s2 hS).trans (ws_z hA hS).1) ?_
    refine ev_icmp_ge (tgt := 16) dX3_has_9 (by decide) (fun c2 => ?_) (fun c2 => ?_)
    · skip
      refine ev_iconst (v := 0) dX3_has_16 (by decide) ?_
      refine ev_retz dX3_has_17 rfl (Or.inl rfl) (Nat.zero_le _) (Nat.zero_le _) ?_
      exact Or.inr ⟨am_rgm (nI_toInt (by omega)) c2, rfl, rfl⟩
    · skip
      refine ev_iconst (v := 1) dX3_has_12 (by decide) ?_
      refine ev_goto (tgt := 17) dX3_has_13 (by decide) ?_
      refine ev_retz dX3_has_17 rfl (Or.inr rfl) (Nat.zero_le _) (Nat.zero_le _) ?_
      exact Or.inl ⟨am_rg2 (nI_toInt (by omega)) c1 c2, rfl, rfl⟩

set_option maxHeartbeats 400000 in
set_option maxRecDepth 100000 in
theorem c_X3_hasRow (G : am_G) (D : Nat) (A : am_S) (σ : am_M) (hX : iv_X A σ) (S : Nat) (hS : S < 4) (i n : Int32) : am_Mt G D mX3_hasRow [.ref (42 + 2 * S), .int i, .int n] σ 0 0 (am_zq (s_row A S i n = true) σ) := by
  refine am_of moX3_hasRow (Nat.le_of_ble_eq_true rfl) ?_
  show am_Ev G mX3_hasRow (am_R D 0 0) 0 0 (am_zq (s_row A S i n = true) σ) 0 [(0, .ref (42 + 2 * S)), (1, .int i), (2, .int n)] [] σ 0 0
  refine ev_iload_n dX3_hasRow_0 rfl rfl ?_
  refine ev_if_lt (tgt := 22) dX3_hasRow_1 (by decide) (fun c1 => ?_) (fun c1 => ?_)
  · skip
    refine ev_iconst (v := 0) dX3_hasRow_22 (by decide) ?_
    refine ev_retz dX3_hasRow_23 rfl (Or.inl rfl) (Nat.zero_le _) (Nat.zero_le _) ?_
    exact Or.inr ⟨by unfold s_row; rw [decide_eq_false (Int32.not_le.mpr c1), Bool.false_and]; exact Bool.false_ne_true, rfl, rfl⟩
  · skip
    refine ev_iload_n dX3_hasRow_4 rfl rfl ?_
    refine ev_if_lt (tgt := 22) dX3_hasRow_5 (by decide) (fun c2 => ?_) (fun c2 => ?_)
    · skip
      refine ev_iconst (v := 0) dX3_hasRow_22 (by decide) ?_
      refine ev_retz dX3_hasRow_23 rfl (Or.inl rfl) (Nat.zero_le _) (Nat.zero_le _) ?_
      exact Or.inr ⟨by unfold s_row; rw [decide_eq_false (Int32.not_le.mpr c2), Bool.false_and, Bool.and_false]; exact Bool.false_ne_true, rfl, rfl⟩
    · skip
      refine ev_iload_n dX3_hasRow_8 rfl rfl ?_
      refine ev_aload_n dX3_hasRow_9 rfl rfl ?_
      refine ev_getI (v := A 81 S) dX3_hasRow_10 fl_X3_23 (ly_s hX.ly hS).2.1 (hX.s2 hS) ?_
      refine ev_iload_n dX3_hasRow_13 rfl rfl ?_
      refine ev_isub (v := (A 81 S) - n) dX3_hasRow_14 rfl ?_
      refine ev_icmp_gt (tgt := 22) dX3_hasRow_15 (by decide) (fun c3 => ?_) (fun c3 => ?_)
      · skip
        refine ev_iconst (v := 0) dX3_hasRow_22 (by decide) ?_
        refine ev_retz dX3_hasRow_23 rfl (Or.inl rfl) (Nat.zero_le _) (Nat.zero_le _) ?_
        exact Or.inr ⟨by unfold s_row; rw [decide_eq_false (Int32.not_le.mpr c3), Bool.and_false, Bool.and_false]; exact Bool.false_ne_true, rfl, rfl⟩
      · skip
        refine ev_iconst (v := 1) dX3_hasRow_18 (by decide) ?_
        refine ev_goto (tgt := 23) dX3_hasRow_19 (by decide) ?_
        refine ev_retz dX3_hasRow_23 rfl (Or.inr rfl) (Nat.zero_le _) (Nat.zero_le _) ?_
        exact Or.inl ⟨by unfold s_row; rw [decide_eq_true (Int32.not_lt.mp c1), decide_eq_true (Int32.not_lt.mp c2), decide_eq_true (Int32.not_lt.mp c3)]; rfl, rfl, rfl⟩

set_option maxHeartbeats 400000 in
set_option maxRecDepth 100000 in
theorem c_X3_get (G : am_G) (D : Nat) (A : am_S) (σ : am_M) (hA : wf_A A) (hX : iv_X A σ) (S : Nat) (hS : S < 4) (k : Nat) (hk : k < sN (A 81 S)) : am_Mt G (D + 1) mX3_get [.ref (42 + 2 * S), .int (nI k)] σ 0 0 (am_q (.int (A 82 (40 * S + k))) σ) := by
  have b7 := wf_np7 hA
  have b8 := wf_nq8 hA
  have b6 := wf_nt6 hA
  have b61 := wf_nt1 hA
  have b160 := wf_tp160 hA
  have brl := wf_rlt hA
  refine am_of moX3_get (Nat.le_of_ble_eq_true rfl) ?_
  show am_Ev G mX3_get (am_R (D + 1) 0 0) 0 0 (am_q (.int (A 82 (40 * S + k))) σ) 0 [(0, .ref (42 + 2 * S)), (1, .int (nI k))] [] σ 0 0
  have hz40 := (ws_z hA hS).2
  refine ev_aload_n dX3_get_0 rfl rfl ?_
  refine ev_iload_n dX3_get_1 rfl rfl ?_
  refine ev_callV (as := [.int (nI k)]) (st := []) dX3_get_2 mfX3_has lk_X3_32 (ly_s hX.ly hS).2.1 (by decide) rfl (c_X3_has G D A σ hA hX S hS (nI k)) rfl rfl (Nat.le_of_ble_eq_true rfl) (am_hR (by omega) (by decide)) ⟨Nat.le_refl _, Nat.le_refl _⟩ ?_
  rintro _ _ (⟨-, rfl, rfl⟩ | ⟨hn, rfl, rfl⟩)
  · skip
    refine ev_if_eq (tgt := 17) dX3_get_5 (by decide) (fun c => absurd c (by decide)) (fun _ => ?_)
    refine ev_aload_n dX3_get_8 rfl rfl ?_
    refine ev_getR (b := (43 + 2 * S)) dX3_get_9 fl_X3_9 (ly_s hX.ly hS).2.1 (ly_s hX.ly hS).2.2.1 ?_
    refine ev_iload_n dX3_get_12 rfl rfl ?_
    refine ev_iald (v := A 82 (40 * S + k)) dX3_get_13 (ly_s hX.ly hS).2.2.2 (am_ixn (by omega) (by decide)) (hX.sn hS (by omega)) ?_
    refine ev_goto (tgt := 18) dX3_get_14 (by decide) ?_
    refine ev_reti dX3_get_18 rfl (Nat.zero_le _) (Nat.zero_le _) ?_
    exact ⟨rfl, rfl⟩
  · skip
    exact absurd ⟨_, hk, rfl⟩ hn

set_option maxHeartbeats 400000 in
set_option maxRecDepth 100000 in
theorem c_X3_put (G : am_G) (D : Nat) (A : am_S) (σ : am_M) (hA : wf_A A) (hX : iv_X A σ) (S : Nat) (hS : S < 4) (k : Nat) (hk : k < sN (A 81 S)) (v : Int32) : am_Mt G (D + 1) mX3_put [.ref (42 + 2 * S), .int (nI k), .int v] σ 0 0 (am_qv (am_sI σ (43 + 2 * S) k (s_cast (A 80 S) v))) := by
  have b7 := wf_np7 hA
  have b8 := wf_nq8 hA
  have b6 := wf_nt6 hA
  have b61 := wf_nt1 hA
  have b160 := wf_tp160 hA
  have brl := wf_rlt hA
  refine am_of moX3_put (Nat.le_of_ble_eq_true rfl) ?_
  show am_Ev G mX3_put (am_R (D + 1) 0 0) 0 0 (am_qv (am_sI σ (43 + 2 * S) k (s_cast (A 80 S) v))) 0 [(0, .ref (42 + 2 * S)), (1, .int (nI k)), (2, .int v)] [] σ 0 0
  have hz40 := (ws_z hA hS).2
  refine ev_aload_n dX3_put_0 rfl rfl ?_
  refine ev_iload_n dX3_put_1 rfl rfl ?_
  refine ev_callV (as := [.int (nI k)]) (st := []) dX3_put_2 mfX3_has lk_X3_32 (ly_s hX.ly hS).2.1 (by decide) rfl (c_X3_has G D A σ hA hX S hS (nI k)) rfl rfl (Nat.le_of_ble_eq_true rfl) (am_hR (by omega) (by decide)) ⟨Nat.le_refl _, Nat.le_refl _⟩ ?_
  rintro _ _ (⟨-, rfl, rfl⟩ | ⟨hn, rfl, rfl⟩)
  · skip
    refine ev_if_ne (tgt := 9) dX3_put_5 (by decide) (fun _ => ?_) (fun c => absurd c (by decide))
    refine ev_aload_n dX3_put_9 rfl rfl ?_
    refine ev_getR (b := (43 + 2 * S)) dX3_put_10 fl_X3_9 (ly_s hX.ly hS).2.1 (ly_s hX.ly hS).2.2.1 ?_
    refine ev_iload_n dX3_put_13 rfl rfl ?_
    refine ev_aload_n dX3_put_14 rfl rfl ?_
    refine ev_getI (v := A 80 S) dX3_put_15 fl_X3_13 (ly_s hX.ly hS).2.1 (hX.s1 hS) ?_
    refine ev_if_ne (tgt := 26) dX3_put_18 (by decide) (fun c1 => ?_) (fun c1 => ?_)
    · skip
      refine ev_aload_n dX3_put_26 rfl rfl ?_
      refine ev_getI (v := A 80 S) dX3_put_27 fl_X3_13 (ly_s hX.ly hS).2.1 (hX.s1 hS) ?_
      refine ev_iconst (v := 1) dX3_put_30 (by decide) ?_
      refine ev_icmp_ne (tgt := 39) dX3_put_31 (by decide) (fun c2 => ?_) (fun c2 => ?_)
      · skip
        refine ev_iload_n dX3_put_39 rfl rfl ?_
        refine ev_iast dX3_put_40 (ly_s hX.ly hS).2.2.2 (am_ixn (by omega) (by decide)) ?_
        refine ev_retv dX3_put_41 rfl (Nat.zero_le _) (Nat.zero_le _) ?_
        have e : s_cast (A 80 S) v = _ := (if_neg c1).trans (if_neg c2)
        exact ⟨rfl, by rw [e]⟩
      · skip
        refine ev_iload_n dX3_put_34 rfl rfl ?_
        refine ev_i2s (v := (v : Int32).toInt16.toInt32) dX3_put_35 rfl ?_
        refine ev_goto (tgt := 40) dX3_put_36 (by decide) ?_
        refine ev_iast dX3_put_40 (ly_s hX.ly hS).2.2.2 (am_ixn (by omega) (by decide)) ?_
        refine ev_retv dX3_put_41 rfl (Nat.zero_le _) (Nat.zero_le _) ?_
        have e : s_cast (A 80 S) v = _ := (if_neg c1).trans (if_pos c2)
        exact ⟨rfl, by rw [e]⟩
    · skip
      refine ev_iload_n dX3_put_21 rfl rfl ?_
      refine ev_i2b (v := (v : Int32).toInt8.toInt32) dX3_put_22 rfl ?_
      refine ev_goto (tgt := 40) dX3_put_23 (by decide) ?_
      refine ev_iast dX3_put_40 (ly_s hX.ly hS).2.2.2 (am_ixn (by omega) (by decide)) ?_
      refine ev_retv dX3_put_41 rfl (Nat.zero_le _) (Nat.zero_le _) ?_
      have e : s_cast (A 80 S) v = _ := if_pos c1
      exact ⟨rfl, by rw [e]⟩
  · skip
    exact absurd ⟨_, hk, rfl⟩ hn

set_option maxHeartbeats 400000 in
set_option maxRecDepth 100000 in
theorem c_fill (G : am_G) (D : Nat) (σ : am_M) (a N : Nat) (hN : σ.1[a]? = some (10, N)) (hN2 : N < 2 ^ 30) (v : Int32) : am_Mt G D mJ7_fill_53178 [.ref a, .int v] σ 0 0 (am_qv (am_fi σ a v N)) := by
  refine am_of moJ7_fill_53178 (Nat.le_of_ble_eq_true rfl) ?_
  show am_Ev G mJ7_fill_53178 (am_R D 0 0) 0 0 (am_qv (am_fi σ a v N)) 0 [(0, .ref a), (1, .int v)] [] σ 0 0
  have lp : ∀ (f : Nat) (k : Nat), k ≤ N → N - k < f → am_Ev G mJ7_fill_53178 (am_R D 0 0) 0 0 (am_qv (am_fi σ a v N)) 5 [(0, .ref a), (1, .int v), (2, .int (nI k)), (3, .int (nI N))] [] (am_fi σ a v k) 0 0 := by
    intro f
    induction f with
    | zero => intro k hk hf; exact absurd hf (Nat.not_lt_zero _)
    | succ f ih =>
      intro k hk hf
      refine ev_iload_n dJ7_fill_53178_5 rfl rfl ?_
      refine ev_iload_n dJ7_fill_53178_6 rfl rfl ?_
      refine ev_icmp_ge (tgt := 20) dJ7_fill_53178_7 (by decide) (fun c1 => ?_) (fun c1 => ?_)
      · skip
        have c1n : N ≤ k := (nI_leI (a := N) (b := k) (by omega) (by omega)).mp c1
        refine ev_retv dJ7_fill_53178_20 rfl (Nat.zero_le _) (Nat.zero_le _) ?_
        have e : k = N := by omega
        subst e
        exact ⟨rfl, rfl⟩
      · skip
        have c1n : ¬ N ≤ k := fun zz => c1 ((nI_leI (a := N) (b := k) (by omega) (by omega)).mpr zz)
        refine ev_aload_n dJ7_fill_53178_10 rfl rfl ?_
        refine ev_iload_n dJ7_fill_53178_11 rfl rfl ?_
        refine ev_iload_n dJ7_fill_53178_12 rfl rfl ?_
        refine ev_iast dJ7_fill_53178_13 (by rw [(am_fi1 k).1]; exact hN) (am_ixn (by omega) (by omega)) ?_
        refine ev_iinc (lv' := [(0, .ref a), (1, .int v), (2, .int (nI (k + 1))), (3, .int (nI N))]) (v := nI (k + 1)) dJ7_fill_53178_14 rfl (nI_1 _) (by decide) rfl ?_
        refine ev_goto (tgt := 5) dJ7_fill_53178_17 (by decide) ?_
        exact ih (k + 1) (by omega) (by omega)
  refine ev_iconst (v := 0) dJ7_fill_53178_0 (by decide) ?_
  refine ev_istore_n (lv' := [(0, .ref a), (1, .int v), (2, .int 0)]) dJ7_fill_53178_1 rfl (by decide) rfl ?_
  refine ev_aload_n dJ7_fill_53178_2 rfl rfl ?_
  refine ev_alen (v := nI N) dJ7_fill_53178_3 hN (by decide) rfl ?_
  refine ev_istore_n (lv' := [(0, .ref a), (1, .int v), (2, .int 0), (3, .int (nI N))]) dJ7_fill_53178_4 rfl (by decide) rfl ?_
  exact lp _ 0 (Nat.zero_le _) (Nat.lt_succ_self _)

set_option maxHeartbeats 400000 in
set_option maxRecDepth 100000 in
theorem c_X3_become (G : am_G) (D : Nat) (A : am_S) (σ : am_M) (hX : iv_X A σ) (S : Nat) (hS : S < 4) (x y : Int32) : am_Mt G (D + 2) mX3_become [.ref (42 + 2 * S), .int x, .int y] σ 0 0 (am_qv (am_fi (am_sI (am_sI σ (42 + 2 * S) 1 x) (42 + 2 * S) 2 (am_bd y 0 40)) (43 + 2 * S) 0 40)) := by
  refine am_of moX3_become (Nat.le_of_ble_eq_true rfl) ?_
  show am_Ev G mX3_become (am_R (D + 2) 0 0) 0 0 (am_qv (am_fi (am_sI (am_sI σ (42 + 2 * S) 1 x) (42 + 2 * S) 2 (am_bd y 0 40)) (43 + 2 * S) 0 40)) 0 [(0, .ref (42 + 2 * S)), (1, .int x), (2, .int y)] [] σ 0 0
  refine ev_aload_n dX3_become_0 rfl rfl ?_
  refine ev_iload_n dX3_become_1 rfl rfl ?_
  refine ev_putI dX3_become_2 fl_X3_13 rfl rfl (ly_s hX.ly hS).2.1 ?_
  refine ev_aload_n dX3_become_5 rfl rfl ?_
  refine ev_iload_n dX3_become_6 rfl rfl ?_
  refine ev_iconst (v := 0) dX3_become_7 (by decide) ?_
  refine ev_bipush (v := 40) dX3_become_8 (by decide) ?_
  refine ev_callSN (as := [.int y, .int 0, .int 40]) (st := [.ref (42 + 2 * S)]) dX3_become_10 mfX6_bounded lk_X3_17 (c_X6_bounded G D (am_sI σ (42 + 2 * S) 1 x) y 0 40 (by decide)) rfl rfl (Nat.le_of_ble_eq_true rfl) (am_hR (by omega) (by decide)) ⟨Nat.le_refl _, Nat.le_refl _⟩ ?_
  rintro _ _ ⟨rfl, rfl⟩
  refine ev_putI dX3_become_13 fl_X3_23 rfl rfl (ly_s (iv_X.ws1 hS hX).ly hS).2.1 ?_
  refine ev_aload_n dX3_become_16 rfl rfl ?_
  refine ev_getR (b := (43 + 2 * S)) dX3_become_17 fl_X3_9 (ly_s (iv_X.ws2 hS (iv_X.ws1 hS hX)).ly hS).2.1 (ly_s (iv_X.ws2 hS (iv_X.ws1 hS hX)).ly hS).2.2.1 ?_
  refine ev_iconst (v := 0) dX3_become_20 (by decide) ?_
  refine ev_callS (as := [.ref (43 + 2 * S), .int 0]) (st := []) dX3_become_21 mfJ7_fill_53178 lk_X3_26 (c_fill G (D + 1) (am_sI (am_sI σ (42 + 2 * S) 1 x) (42 + 2 * S) 2 (am_bd y 0 40)) (43 + 2 * S) 40 ((ly_s (iv_X.ws2 hS (iv_X.ws1 hS hX)).ly hS).2.2.2) (by decide) 0) rfl rfl (Nat.le_of_ble_eq_true rfl) (am_hR (by omega) (by decide)) ⟨Nat.le_refl _, Nat.le_refl _⟩ ?_
  rintro _ _ ⟨rfl, rfl⟩
  refine ev_retv dX3_become_24 rfl (Nat.zero_le _) (Nat.zero_le _) ?_
  exact ⟨rfl, rfl⟩

set_option maxHeartbeats 400000 in
set_option maxRecDepth 100000 in
theorem c_X6_refusalOfTold (G : am_G) (D : Nat) (A : am_S) (σ : am_M) (hA : wf_A A) (hX : iv_X A σ) (p : Int32) : am_Mt G (D + 1) mX6_refusalOfTold [.ref 32, .int p] σ 0 0 (am_q (.int (s_wr A p)) σ) := by
  have b7 := wf_np7 hA
  have b8 := wf_nq8 hA
  have b6 := wf_nt6 hA
  have b61 := wf_nt1 hA
  have b160 := wf_tp160 hA
  have brl := wf_rlt hA
  refine am_of moX6_refusalOfTold (Nat.le_of_ble_eq_true rfl) ?_
  show am_Ev G mX6_refusalOfTold (am_R (D + 1) 0 0) 0 0 (am_q (.int (s_wr A p)) σ) 0 [(0, .ref 32), (1, .int p)] [] σ 0 0
  refine ev_aload_n dX6_refusalOfTold_0 rfl rfl ?_
  refine ev_iload_n dX6_refusalOfTold_1 rfl rfl ?_
  refine ev_callV (as := [.int p]) (st := []) dX6_refusalOfTold_2 mfX6_sheetAt lk_X6_225 (ly_k hX.ly 32 rfl) (by decide) rfl (c_X6_sheetAt G D A σ hX p) rfl rfl (Nat.le_of_ble_eq_true rfl) (am_hR (by omega) (by decide)) ⟨Nat.le_refl _, Nat.le_refl _⟩ ?_
  rintro _ _ (⟨S, rfl, hS, rfl, rfl⟩ | ⟨hn1, rfl, rfl⟩)
  · skip
    refine ev_astore_n (lv' := [(0, .ref 32), (1, .int (nI S)), (2, .ref (42 + 2 * S))]) dX6_refusalOfTold_5 rfl (by decide) rfl ?_
    refine ev_aload_n dX6_refusalOfTold_6 rfl rfl ?_
    refine ev_ifnonnullR (tgt := 13) dX6_refusalOfTold_7 (by decide) ?_
    refine ev_aload_n dX6_refusalOfTold_13 rfl rfl ?_
    refine ev_callV (as := []) (st := []) dX6_refusalOfTold_14 mfX3_isMissing lk_X6_268 (ly_s hX.ly hS).2.1 (by decide) rfl (c_X3_isMissing G D A σ hX S hS) rfl rfl (Nat.le_of_ble_eq_true rfl) (am_hR (by omega) (by decide)) ⟨Nat.le_refl _, Nat.le_refl _⟩ ?_
    rintro _ _ (⟨h2, rfl, rfl⟩ | ⟨h2, rfl, rfl⟩)
    · skip
      refine ev_if_eq (tgt := 23) dX6_refusalOfTold_17 (by decide) (fun c => absurd c (by decide)) (fun _ => ?_)
      refine ev_bipush (v := (-11)) dX6_refusalOfTold_20 (by decide) ?_
      refine ev_reti dX6_refusalOfTold_22 rfl (Nat.zero_le _) (Nat.zero_le _) ?_
      exact ⟨by unfold s_wr; rw [am_inN hS (by decide), if_pos rfl, sN_n (show S < 2 ^ 31 by omega), if_pos h2], rfl⟩
    · skip
      refine ev_if_eq (tgt := 23) dX6_refusalOfTold_17 (by decide) (fun _ => ?_) (fun c => absurd (by decide) c)
      refine ev_aload_n dX6_refusalOfTold_23 rfl rfl ?_
      refine ev_getI (v := A 81 S) dX6_refusalOfTold_24 fl_X6_324 (ly_s hX.ly hS).2.1 (hX.s2 hS) ?_
      refine ev_aload_n dX6_refusalOfTold_27 rfl rfl ?_
      refine ev_getI (v := A 65 6) dX6_refusalOfTold_28 fl_X6_88 (ly_k hX.ly 32 rfl) hX.f13 ?_
      refine ev_icmp_ne (tgt := 38) dX6_refusalOfTold_31 (by decide) (fun c3 => ?_) (fun c3 => ?_)
      · skip
        refine ev_bipush (v := (-2)) dX6_refusalOfTold_38 (by decide) ?_
        refine ev_reti dX6_refusalOfTold_40 rfl (Nat.zero_le _) (Nat.zero_le _) ?_
        exact ⟨by unfold s_wr; rw [am_inN hS (by decide), if_pos rfl, sN_n (show S < 2 ^ 31 by omega), if_neg h2, if_neg c3], rfl⟩
      · skip
        refine ev_iconst (v := 0) dX6_refusalOfTold_34 (by decide) ?_
        refine ev_goto (tgt := 40) dX6_refusalOfTold_35 (by decide) ?_
        refine ev_reti dX6_refusalOfTold_40 rfl (Nat.zero_le _) (Nat.zero_le _) ?_
        exact ⟨by unfold s_wr; rw [am_inN hS (by decide), if_pos rfl, sN_n (show S < 2 ^ 31 by omega), if_neg h2, if_pos c3], rfl⟩
  · skip
    refine ev_astore_nN (lv' := [(0, .ref 32), (1, .int p), (2, .null)]) dX6_refusalOfTold_5 rfl (by decide) rfl ?_
    refine ev_aload_nN dX6_refusalOfTold_6 rfl rfl ?_
    refine ev_ifnonnullN dX6_refusalOfTold_7 ?_
    refine ev_bipush (v := (-2)) dX6_refusalOfTold_10 (by decide) ?_
    refine ev_reti dX6_refusalOfTold_12 rfl (Nat.zero_le _) (Nat.zero_le _) ?_
    exact ⟨by unfold s_wr; rw [am_inF (by decide) hn1, if_neg Bool.false_ne_true], rfl⟩

set_option maxHeartbeats 400000 in
set_option maxRecDepth 100000 in
theorem c_X6_firstOtherwise (G : am_G) (D : Nat) (A : am_S) (σ : am_M) (hA : wf_A A) (hX : iv_X A σ) (S T : Nat) (hS : S < 4) (hT : T < 3) (hsz : A 81 S = A 65 6) (hc : cb_X A σ) (hr : cr_X A σ) : am_Mt G (D + 2) mX6_firstOtherwise [.ref 32, .int (nI S), .int (nI T)] σ 0 0 (am_q (.int (s_bi (s_ul A S (s_se A T)))) σ) := by
  have b7 := wf_np7 hA
  have b8 := wf_nq8 hA
  have b6 := wf_nt6 hA
  have b61 := wf_nt1 hA
  have b160 := wf_tp160 hA
  have brl := wf_rlt hA
  refine am_of moX6_firstOtherwise (Nat.le_of_ble_eq_true rfl) ?_
  show am_Ev G mX6_firstOtherwise (am_R (D + 2) 0 0) 0 0 (am_q (.int (s_bi (s_ul A S (s_se A T)))) σ) 0 [(0, .ref 32), (1, .int (nI S)), (2, .int (nI T))] [] σ 0 0
  have lp : ∀ (f : Nat) (q : Nat), (q ≤ s_nq A) → (s_uf A S (s_se A T) (s_nq A - q) q = s_ul A S (s_se A T)) → s_nq A - q < f → am_Ev G mX6_firstOtherwise (am_R (D + 2) 0 0) 0 0 (am_q (.int (s_bi (s_ul A S (s_se A T)))) σ) 22 [(0, .ref 32), (1, .int (nI S)), (2, .int (nI T)), (3, .ref (42 + 2 * S)), (4, .int (nI q))] [] σ 0 0 := by
    intro f
    induction f with
    | zero => intro q hq hu hf; exact absurd hf (Nat.not_lt_zero _)
    | succ f ih =>
      intro q hq hu hf
      refine ev_iload dX6_firstOtherwise_22 rfl ?_
      refine ev_aload_n dX6_firstOtherwise_24 rfl rfl ?_
      refine ev_getI (v := nI (s_nq A)) dX6_firstOtherwise_25 fl_X6_88 (ly_k hX.ly 32 rfl) (hX.f13.trans (wf_nq hA)) ?_
      refine ev_icmp_ge (tgt := 60) dX6_firstOtherwise_28 (by decide) (fun c1 => ?_) (fun c1 => ?_)
      · skip
        have c1n : (s_nq A) ≤ q := (nI_leI (a := (s_nq A)) (b := q) (by omega) (by omega)).mp c1
        refine ev_iconst (v := (-1)) dX6_firstOtherwise_60 (by decide) ?_
        refine ev_reti dX6_firstOtherwise_61 rfl (Nat.zero_le _) (Nat.zero_le _) ?_
        exact ⟨by rw [← hu, s_uf0 (by omega)]; rfl, rfl⟩
      · skip
        have c1n : ¬ (s_nq A) ≤ q := fun zz => c1 ((nI_leI (a := (s_nq A)) (b := q) (by omega) (by omega)).mpr zz)
        have ebit0 : (nI (mk_m (s_rt A (s_se A T)) (s_nq A)) >>> (nI q &&& 31)) &&& 1 = s_b2 (s_rt A (s_se A T) q) := by rw [mk_get (by omega) (by omega)]; cases s_rt A (s_se A T) q <;> rfl
        have ebit : s_b2 (s_rt A (s_se A T) q) = s_b2 (s_rt A (s_se A T) q) := rfl
        refine ev_aload_n dX6_firstOtherwise_31 rfl rfl ?_
        refine ev_iload dX6_firstOtherwise_32 rfl ?_
        refine ev_callV (as := [.int (nI q)]) (st := []) dX6_firstOtherwise_34 mfX3_get lk_X6_285 (ly_s hX.ly hS).2.1 (by decide) rfl (c_X3_get G D A σ hA hX S hS q (by rw [hsz]; show q < s_nq A; omega)) rfl rfl (Nat.le_of_ble_eq_true rfl) (am_hR (by omega) (by decide)) ⟨Nat.le_refl _, Nat.le_refl _⟩ ?_
        rintro _ _ ⟨rfl, rfl⟩
        refine ev_aload_n dX6_firstOtherwise_37 rfl rfl ?_
        refine ev_getR (b := 59) dX6_firstOtherwise_38 fl_X6_59 (ly_k hX.ly 32 rfl) (ly_r hX.ly 9 rfl) ?_
        refine ev_iload_n dX6_firstOtherwise_41 rfl rfl ?_
        refine ev_iald (v := nI (mk_m (s_rt A (s_se A T)) (s_nq A))) dX6_firstOtherwise_42 (ly_k hX.ly 59 rfl) (am_ixn (by omega) (by decide)) (hr T (by omega)) ?_
        refine ev_iload dX6_firstOtherwise_43 rfl ?_
        refine ev_ishr (v := (nI (mk_m (s_rt A (s_se A T)) (s_nq A))) >>> ((nI q) &&& 31)) dX6_firstOtherwise_45 rfl ?_
        refine ev_iconst (v := 1) dX6_firstOtherwise_46 (by decide) ?_
        refine ev_iand (v := s_b2 (s_rt A (s_se A T) q)) dX6_firstOtherwise_47 ebit0 ?_
        refine ev_icmp_eq (tgt := 54) dX6_firstOtherwise_48 (by decide) (fun c2 => ?_) (fun c2 => ?_)
        · skip
          refine ev_iinc (lv' := [(0, .ref 32), (1, .int (nI S)), (2, .int (nI T)), (3, .ref (42 + 2 * S)), (4, .int (nI (q + 1)))]) (v := nI (q + 1)) dX6_firstOtherwise_54 rfl (nI_1 _) (by decide) rfl ?_
          refine ev_goto (tgt := 22) dX6_firstOtherwise_57 (by decide) ?_
          exact ih (q + 1) (by omega) (by rw [← hu, s_ufS (by omega) (c2.trans ebit)]) (by omega)
        · skip
          refine ev_iload dX6_firstOtherwise_51 rfl ?_
          refine ev_reti dX6_firstOtherwise_53 rfl (Nat.zero_le _) (Nat.zero_le _) ?_
          exact ⟨by rw [← hu, s_ufN (by omega) (fun z => c2 (z.trans ebit.symm))]; rfl, rfl⟩
  refine ev_aload_n dX6_firstOtherwise_0 rfl rfl ?_
  refine ev_iload_n dX6_firstOtherwise_1 rfl rfl ?_
  refine ev_callV (as := [.int (nI S)]) (st := []) dX6_firstOtherwise_2 mfX6_sheetAt lk_X6_225 (ly_k hX.ly 32 rfl) (by decide) rfl (c_X6_sheetAtN G (D + 1) A σ hX S hS) rfl rfl (Nat.le_of_ble_eq_true rfl) (am_hR (by omega) (by decide)) ⟨Nat.le_refl _, Nat.le_refl _⟩ ?_
  rintro _ _ ⟨rfl, rfl⟩
  refine ev_astore_n (lv' := [(0, .ref 32), (1, .int (nI S)), (2, .int (nI T)), (3, .ref (42 + 2 * S))]) dX6_firstOtherwise_5 rfl (by decide) rfl ?_
  refine ev_aload_n dX6_firstOtherwise_6 rfl rfl ?_
  refine ev_ifnullR dX6_firstOtherwise_7 ?_
  refine ev_iload_n dX6_firstOtherwise_10 rfl rfl ?_
  refine ev_callS (as := [.int (nI T)]) (st := []) dX6_firstOtherwise_11 mfX6_isTable lk_X6_161 (c_X6_isTable G (D + 1) σ (nI T)) rfl rfl (Nat.le_of_ble_eq_true rfl) (am_hR (by omega) (by decide)) ⟨Nat.le_refl _, Nat.le_refl _⟩ ?_
  rintro _ _ (⟨-, rfl, rfl⟩ | ⟨hn, rfl, rfl⟩)
  · skip
    refine ev_if_ne (tgt := 19) dX6_firstOtherwise_14 (by decide) (fun _ => ?_) (fun c => absurd c (by decide))
    refine ev_iconst (v := 0) dX6_firstOtherwise_19 (by decide) ?_
    refine ev_istore (lv' := [(0, .ref 32), (1, .int (nI S)), (2, .int (nI T)), (3, .ref (42 + 2 * S)), (4, .int 0)]) dX6_firstOtherwise_20 (by decide) rfl ?_
    exact lp _ 0 (Nat.zero_le _) rfl (Nat.lt_succ_self _)
  · skip
    exact absurd ⟨_, by omega, rfl⟩ hn

set_option maxHeartbeats 400000 in
set_option maxRecDepth 100000 in
theorem c_X6_changePlaces (G : am_G) (D : Nat) (A : am_S) (σ : am_M) (hX : iv_X A σ) (P Q g h : Nat) (hP : P < s_np A) (hQ : Q < s_np A) (hPQ : P ≠ Q) (hg : σ.2.2 33 P = some g) (hh : σ.2.2 33 Q = some h) : am_Mt G D mX6_changePlaces [.ref g, .ref h] σ 0 0 (am_qv (am_sI (am_sI σ g 4 (A 69 Q)) h 4 (A 69 P))) := by
  refine am_of moX6_changePlaces (Nat.le_of_ble_eq_true rfl) ?_
  show am_Ev G mX6_changePlaces (am_R D 0 0) 0 0 (am_qv (am_sI (am_sI σ g 4 (A 69 Q)) h 4 (A 69 P))) 0 [(0, .ref g), (1, .ref h)] [] σ 0 0
  have h9 := hX.g9 hP hg
  have h92 := hX.g9 hQ hh
  refine ev_aload_n dX6_changePlaces_0 rfl rfl ?_
  refine ev_getI (v := A 69 P) dX6_changePlaces_1 fl_X6_143 (hX.gk hP hg) (hX.g4 hP hg) ?_
  refine ev_istore_n (lv' := [(0, .ref g), (1, .ref h), (2, .int (A 69 P))]) dX6_changePlaces_4 rfl (by decide) rfl ?_
  refine ev_aload_n dX6_changePlaces_5 rfl rfl ?_
  refine ev_aload_n dX6_changePlaces_6 rfl rfl ?_
  refine ev_getI (v := A 69 Q) dX6_changePlaces_7 fl_X6_143 (hX.gk hQ hh) (hX.g4 hQ hh) ?_
  refine ev_putI dX6_changePlaces_10 fl_X6_143 rfl rfl (hX.gk hP hg) ?_
  refine ev_aload_n dX6_changePlaces_13 rfl rfl ?_
  refine ev_iload_n dX6_changePlaces_14 rfl rfl ?_
  refine ev_putI dX6_changePlaces_15 fl_X6_143 rfl rfl ((iv_X.w69 hP hg hX).gk (np_up (by omega) hQ) hh) ?_
  refine ev_retv dX6_changePlaces_18 rfl (Nat.zero_le _) (Nat.zero_le _) ?_
  exact ⟨rfl, rfl⟩

theorem s_swB {A : am_S} {a b : Nat} (hab : a ≠ b) : s_eq (s_sw A a b) A := s_eq.sy s_swE
set_option maxHeartbeats 400000 in
set_option maxRecDepth 100000 in
theorem c_X6_apartIfChanged (G : am_G) (D : Nat) (A : am_S) (σ : am_M) (hA : wf_A A) (hX : iv_X A σ) (P Q g h : Nat) (hP : P < s_np A) (hQ : Q < s_np A) (hPQ : P ≠ Q) (hg : σ.2.2 33 P = some g) (hh : σ.2.2 33 Q = some h) (hc : cb_X A σ) (hr : cr_X A σ) : am_Mt G (D + 3) mX6_apartIfChanged [.ref 32, .ref g, .ref h] σ 0 0 (am_qR1 A (.int (if A 69 P = A 69 Q then -1 else s_ac A P Q)) σ) := by
  have b7 := wf_np7 hA
  have b8 := wf_nq8 hA
  have b6 := wf_nt6 hA
  have b61 := wf_nt1 hA
  have b160 := wf_tp160 hA
  have brl := wf_rlt hA
  refine am_of moX6_apartIfChanged (Nat.le_of_ble_eq_true rfl) ?_
  show am_Ev G mX6_apartIfChanged (am_R (D + 3) 0 0) 0 0 (am_qR1 A (.int (if A 69 P = A 69 Q then -1 else s_ac A P Q)) σ) 0 [(0, .ref 32), (1, .ref g), (2, .ref h)] [] σ 0 0
  have h9 := hX.g9 hP hg
  have h92 := hX.g9 hQ hh
  have hP2 : P < s_np (s_sw A P Q) := np_up (by omega) (np_up (by omega) hP)
  have hQ2 : Q < s_np (s_sw A P Q) := np_up (by omega) (np_up (by omega) hQ)
  have hAs : wf_A (s_sw A P Q) := wf_69 (wf_69 hA (wf_pp hA Q hQ).2.2.2.1) (wf_pp hA P hP).2.2.2.1
  refine ev_aload_n dX6_apartIfChanged_0 rfl rfl ?_
  refine ev_ifnullR dX6_apartIfChanged_1 ?_
  refine ev_aload_n dX6_apartIfChanged_4 rfl rfl ?_
  refine ev_ifnullR dX6_apartIfChanged_5 ?_
  refine ev_aload_n dX6_apartIfChanged_8 rfl rfl ?_
  refine ev_getI (v := A 69 P) dX6_apartIfChanged_9 fl_X6_143 (hX.gk hP hg) (hX.g4 hP hg) ?_
  refine ev_aload_n dX6_apartIfChanged_12 rfl rfl ?_
  refine ev_getI (v := A 69 Q) dX6_apartIfChanged_13 fl_X6_143 (hX.gk hQ hh) (hX.g4 hQ hh) ?_
  refine ev_icmp_ne (tgt := 21) dX6_apartIfChanged_16 (by decide) (fun c1 => ?_) (fun c1 => ?_)
  · skip
    refine ev_aload_n dX6_apartIfChanged_21 rfl rfl ?_
    refine ev_aload_n dX6_apartIfChanged_22 rfl rfl ?_
    refine ev_callS (as := [.ref g, .ref h]) (st := []) dX6_apartIfChanged_23 mfX6_changePlaces lk_X6_317 (c_X6_changePlaces G (D + 2) A σ hX P Q g h hP hQ hPQ hg hh) rfl rfl (Nat.le_of_ble_eq_true rfl) (am_hR (by omega) (by decide)) ⟨Nat.le_refl _, Nat.le_refl _⟩ ?_
    rintro _ _ ⟨rfl, rfl⟩
    refine ev_aload_n dX6_apartIfChanged_26 rfl rfl ?_
    refine ev_callV (as := []) (st := []) dX6_apartIfChanged_27 mfX6_findRights lk_X6_311 (ly_k (show iv_X (s_sw A P Q) (am_sI (am_sI σ g 4 (A 69 Q)) h 4 (A 69 P)) from iv_X.w69 (np_up (by omega) hQ) hh (iv_X.w69 hP hg hX)).ly 32 rfl) (by decide) rfl (c_X6_findRights G D (s_sw A P Q) (am_sI (am_sI σ g 4 (A 69 Q)) h 4 (A 69 P)) hAs (show iv_X (s_sw A P Q) (am_sI (am_sI σ g 4 (A 69 Q)) h 4 (A 69 P)) from iv_X.w69 (np_up (by omega) hQ) hh (iv_X.w69 hP hg hX)) (cb_X.eq (cb_X.z (by omega) (cb_X.z (by omega) hc)) s_swE)) rfl rfl (Nat.le_of_ble_eq_true rfl) (am_hR (by omega) (by decide)) ⟨Nat.le_refl _, Nat.le_refl _⟩ ?_
    rintro _ σ2 ⟨rfl, hX2, hF2, hc2, hr2⟩
    have hg_2 : σ2.2.2 33 P = some g := (congrFun (congrFun hF2.2.1 33) _).trans hg
    have hh_2 : σ2.2.2 33 Q = some h := (congrFun (congrFun hF2.2.1 33) _).trans hh
    refine ev_aload_n dX6_apartIfChanged_30 rfl rfl ?_
    refine ev_sipush (v := 255) dX6_apartIfChanged_31 (by decide) ?_
    refine ev_callV (as := [.int 255]) (st := []) dX6_apartIfChanged_34 mfX6_apartBy lk_X6_187 (ly_k hX2.ly 32 rfl) (by decide) rfl (c_X6_apartBy G (D + 1) (s_sw A P Q) σ2 hAs hX2 255 (by omega) hc2 hr2) rfl rfl (Nat.le_of_ble_eq_true rfl) (am_hR (by omega) (by decide)) ⟨Nat.le_refl _, Nat.le_refl _⟩ ?_
    rintro _ _ ⟨rfl, rfl⟩
    refine ev_istore_n (lv' := [(0, .ref 32), (1, .ref g), (2, .ref h), (3, .int (s_ap (s_sw A P Q) (fun q => (255 : Nat).testBit q)))]) dX6_apartIfChanged_37 rfl (by decide) rfl ?_
    refine ev_aload_n dX6_apartIfChanged_38 rfl rfl ?_
    refine ev_aload_n dX6_apartIfChanged_39 rfl rfl ?_
    refine ev_callS (as := [.ref g, .ref h]) (st := []) dX6_apartIfChanged_40 mfX6_changePlaces lk_X6_317 (c_X6_changePlaces G (D + 2) (s_sw A P Q) σ2 hX2 P Q g h hP2 hQ2 hPQ hg_2 hh_2) rfl rfl (Nat.le_of_ble_eq_true rfl) (am_hR (by omega) (by decide)) ⟨Nat.le_refl _, Nat.le_refl _⟩ ?_
    rintro _ _ ⟨rfl, rfl⟩
    refine ev_aload_n dX6_apartIfChanged_43 rfl rfl ?_
    refine ev_callV (as := []) (st := []) dX6_apartIfChanged_44 mfX6_findRights lk_X6_311 (ly_k (show iv_X A (am_sI (am_sI σ2 g 4 (s_sw A P Q 69 Q)) h 4 (s_sw A P Q 69 P)) from by have z := iv_X.w69 (σ := am_sI σ2 g 4 (s_sw A P Q 69 Q)) (v := s_sw A P Q 69 P) (np_up (b := 69) (m := P) (v := s_sw A P Q 69 Q) (by omega) hQ2) hh_2 (iv_X.w69 (v := s_sw A P Q 69 Q) hP2 hg_2 hX2); rw [show am_up (am_up (s_sw A P Q) 69 P (s_sw A P Q 69 Q)) 69 Q (s_sw A P Q 69 P) = A from s_sw2 hPQ] at z; exact z).ly 32 rfl) (by decide) rfl (c_X6_findRights G D A (am_sI (am_sI σ2 g 4 (s_sw A P Q 69 Q)) h 4 (s_sw A P Q 69 P)) hA (show iv_X A (am_sI (am_sI σ2 g 4 (s_sw A P Q 69 Q)) h 4 (s_sw A P Q 69 P)) from by have z := iv_X.w69 (σ := am_sI σ2 g 4 (s_sw A P Q 69 Q)) (v := s_sw A P Q 69 P) (np_up (b := 69) (m := P) (v := s_sw A P Q 69 Q) (by omega) hQ2) hh_2 (iv_X.w69 (v := s_sw A P Q 69 Q) hP2 hg_2 hX2); rw [show am_up (am_up (s_sw A P Q) 69 P (s_sw A P Q 69 Q)) 69 Q (s_sw A P Q 69 P) = A from s_sw2 hPQ] at z; exact z) (cb_X.eq (cb_X.z (by omega) (cb_X.z (by omega) hc2)) (s_swB hPQ))) rfl rfl (Nat.le_of_ble_eq_true rfl) (am_hR (by omega) (by decide)) ⟨Nat.le_refl _, Nat.le_refl _⟩ ?_
    rintro _ σ3 ⟨rfl, hX3, hF3, hc3, hr3⟩
    have hg_3 : σ3.2.2 33 P = some g := (congrFun (congrFun hF3.2.1 33) _).trans hg_2
    have hh_3 : σ3.2.2 33 Q = some h := (congrFun (congrFun hF3.2.1 33) _).trans hh_2
    refine ev_iload_n dX6_apartIfChanged_47 rfl rfl ?_
    refine ev_reti dX6_apartIfChanged_48 rfl (Nat.zero_le _) (Nat.zero_le _) ?_
    exact ⟨by rw [if_neg c1]; unfold s_ac; rw [← s_ap255 (wf_nq8 hAs)], hX3, (fr_C.tr (fr_C.wr (by omega) (fr_C.wr (by omega) (fr_C.tr (fr_C.wr (by omega) (fr_C.wr (by omega) fr_C.rf)) hF2))) hF3), hc3, hr3⟩
  · skip
    refine ev_iconst (v := (-1)) dX6_apartIfChanged_19 (by decide) ?_
    refine ev_reti dX6_apartIfChanged_20 rfl (Nat.zero_le _) (Nat.zero_le _) ?_
    exact ⟨by rw [if_pos c1], hX, fr_C.rf, hc, hr⟩

theorem s_dt4 {A : am_S} {P : Nat} : s_dt A P < 4 := by
  unfold s_dt s_d2 s_d1
  (repeat' split) <;> omega
def am_qE1 (A : am_S) (v : Value) (σ0 : am_M) : Option Value → am_M → Prop := fun r σ' => r = some v ∧ iv_X A σ' ∧ fr_C σ0 σ' ∧ ∀ a, 54 ≤ a → a < 60 → σ'.2.1 a = σ0.2.1 a
set_option maxHeartbeats 400000 in
set_option maxRecDepth 100000 in
theorem c_X6_costOf (G : am_G) (D : Nat) (A : am_S) (σ : am_M) (hA : wf_A A) (hX : iv_X A σ) (x : Nat) (hx : σ.2.2 37 (s_rl A) = some x) (P g : Nat) (hP : P < s_np A) (hg : σ.2.2 33 P = some g) : am_Mt G (D + 3) mX6_costOf [.ref 32, .int (nI P), .ref g] σ 0 0 (am_qE1 A (.int (s_pr A P)) σ) := by
  have b7 := wf_np7 hA
  have b8 := wf_nq8 hA
  have b6 := wf_nt6 hA
  have b61 := wf_nt1 hA
  have b160 := wf_tp160 hA
  have brl := wf_rlt hA
  refine am_of moX6_costOf (Nat.le_of_ble_eq_true rfl) ?_
  show am_Ev G mX6_costOf (am_R (D + 3) 0 0) 0 0 (am_qE1 A (.int (s_pr A P)) σ) 0 [(0, .ref 32), (1, .int (nI P)), (2, .ref g)] [] σ 0 0
  have hd4 : s_dt A P < 4 := s_dt4
  refine ev_aload_n dX6_costOf_0 rfl rfl ?_
  refine ev_callV (as := []) (st := []) dX6_costOf_1 mfX6_lawText lk_X6_108 (ly_k hX.ly 32 rfl) (by decide) rfl (c_X6_lawText G (D + 2) A σ hA hX x hx) rfl rfl (Nat.le_of_ble_eq_true rfl) (am_hR (by omega) (by decide)) ⟨Nat.le_refl _, Nat.le_refl _⟩ ?_
  rintro _ _ ⟨rfl, rfl⟩
  refine ev_astore_n (lv' := [(0, .ref 32), (1, .int (nI P)), (2, .ref g), (3, .ref x)]) dX6_costOf_4 rfl (by decide) rfl ?_
  refine ev_aload_n dX6_costOf_5 rfl rfl ?_
  refine ev_ifnonnullR (tgt := 11) dX6_costOf_6 (by decide) ?_
  refine ev_aload_n dX6_costOf_11 rfl rfl ?_
  refine ev_callV (as := []) (st := []) dX6_costOf_12 mfX1_deepestTopic lk_X6_321 (hX.gk hP hg) (by decide) rfl (c_X1_deepestTopic G (D + 2) A σ hA hX P g hP hg) rfl rfl (Nat.le_of_ble_eq_true rfl) (am_hR (by omega) (by decide)) ⟨Nat.le_refl _, Nat.le_refl _⟩ ?_
  rintro _ _ ⟨rfl, rfl⟩
  refine ev_istore (lv' := [(0, .ref 32), (1, .int (nI P)), (2, .ref g), (3, .ref x), (4, .int (nI (s_dt A P)))]) dX6_costOf_15 (by decide) rfl ?_
  refine ev_aload_n dX6_costOf_17 rfl rfl ?_
  refine ev_getR (b := 61) dX6_costOf_18 fl_X6_65 (ly_k hX.ly 32 rfl) (ly_r hX.ly 11 rfl) ?_
  refine ev_aload_n dX6_costOf_21 rfl rfl ?_
  refine ev_iload dX6_costOf_22 rfl ?_
  refine ev_callV (as := [.int (nI (s_dt A P))]) (st := [.ref 61]) dX6_costOf_24 mfX1_deepAt lk_X6_135 (hX.gk hP hg) (by decide) rfl (c_X1_deepAtN G (D + 1) A σ hA hX P g hP hg (s_dt A P) (by omega)) rfl rfl (Nat.le_of_ble_eq_true rfl) (am_hR (by omega) (by decide)) ⟨Nat.le_refl _, Nat.le_refl _⟩ ?_
  rintro _ _ ⟨rfl, rfl⟩
  refine ev_iconst (v := 0) dX6_costOf_27 (by decide) ?_
  refine ev_aload_n dX6_costOf_28 rfl rfl ?_
  refine ev_getI (v := A 67 P) dX6_costOf_29 fl_X6_149 (hX.gk hP hg) (hX.g2 hP hg) ?_
  refine ev_callS (as := [.ref 61, .int (A 70 (4 * P + (s_dt A P))), .int 0, .int (A 67 P)]) (st := []) dX6_costOf_32 mfX6_name lk_X6_111 (c_X6_name G (D + 2) A σ hX 61 (ly_k hX.ly 61 rfl) (by decide) (A 70 (4 * P + (s_dt A P))) 0 (A 67 P)) rfl rfl (Nat.le_of_ble_eq_true rfl) (am_hR (by omega) (by decide)) ⟨Nat.le_refl _, Nat.le_refl _⟩ ?_
  rintro _ _ ⟨rfl, rfl⟩
  refine ev_aload_n dX6_costOf_35 rfl rfl ?_
  refine ev_getR (b := 61) dX6_costOf_36 fl_X6_65 (ly_k (iv_X.sc (by omega) (iv_X.sc (by omega) (iv_X.sc (by omega) hX))).ly 32 rfl) (ly_r (iv_X.sc (by omega) (iv_X.sc (by omega) (iv_X.sc (by omega) hX))).ly 11 rfl) ?_
  refine ev_iload dX6_costOf_39 rfl ?_
  refine ev_iconst (v := 0) dX6_costOf_41 (by decide) ?_
  refine ev_iload_n dX6_costOf_42 rfl rfl ?_
  refine ev_callS (as := [.ref 61, .int (nI (s_dt A P)), .int 0, .int (nI P)]) (st := []) dX6_costOf_43 mfX6_nameMore lk_X6_115 (c_X6_nameMore G (D + 2) A (am_sI (am_sI (am_sI σ 61 0 (A 70 (4 * P + (s_dt A P)))) 61 1 0) 61 2 (A 67 P)) (iv_X.sc (by omega) (iv_X.sc (by omega) (iv_X.sc (by omega) hX))) 61 (ly_k (iv_X.sc (by omega) (iv_X.sc (by omega) (iv_X.sc (by omega) hX))).ly 61 rfl) (by decide) (nI (s_dt A P)) 0 (nI P)) rfl rfl (Nat.le_of_ble_eq_true rfl) (am_hR (by omega) (by decide)) ⟨Nat.le_refl _, Nat.le_refl _⟩ ?_
  rintro _ _ ⟨rfl, rfl⟩
  refine ev_aload_n dX6_costOf_46 rfl rfl ?_
  refine ev_iconst (v := 2) dX6_costOf_47 (by decide) ?_
  refine ev_aload_n dX6_costOf_48 rfl rfl ?_
  refine ev_getR (b := 61) dX6_costOf_49 fl_X6_65 (ly_k (iv_X.sc (by omega) (iv_X.sc (by omega) (iv_X.sc (by omega) (iv_X.sc (by omega) (iv_X.sc (by omega) (iv_X.sc (by omega) hX)))))).ly 32 rfl) (ly_r (iv_X.sc (by omega) (iv_X.sc (by omega) (iv_X.sc (by omega) (iv_X.sc (by omega) (iv_X.sc (by omega) (iv_X.sc (by omega) hX)))))).ly 11 rfl) ?_
  have hn1 : s_na (am_sI (am_sI (am_sI (am_sI (am_sI (am_sI σ 61 0 (A 70 (4 * P + (s_dt A P)))) 61 1 0) 61 2 (A 67 P)) 61 3 (nI (s_dt A P))) 61 4 0) 61 5 (nI P)) 61 (s_nm (A 70 (4 * P + s_dt A P)) 0 (A 67 P) (nI (s_dt A P)) 0 (nI P)) := by
    intro j hj
    rcases (show j = 0 ∨ j = 1 ∨ j = 2 ∨ j = 3 ∨ j = 4 ∨ j = 5 by omega) with rfl | rfl | rfl | rfl | rfl | rfl <;> rfl
  have hxx1 : (am_sI (am_sI (am_sI (am_sI (am_sI (am_sI σ 61 0 (A 70 (4 * P + (s_dt A P)))) 61 1 0) 61 2 (A 67 P)) 61 3 (nI (s_dt A P))) 61 4 0) 61 5 (nI P)).2.2 37 (s_rl A) = some x := hx
  refine ev_callV (as := [.int 2, .ref 61]) (st := []) dX6_costOf_52 mfX5_says lk_X6_118 ((iv_X.sc (by omega) (iv_X.sc (by omega) (iv_X.sc (by omega) (iv_X.sc (by omega) (iv_X.sc (by omega) (iv_X.sc (by omega) hX)))))).tk brl hx) (by decide) rfl (show am_Mt G _ mX5_says [.ref x, .int 2, .ref 61] (am_sI (am_sI (am_sI (am_sI (am_sI (am_sI σ 61 0 (A 70 (4 * P + (s_dt A P)))) 61 1 0) 61 2 (A 67 P)) 61 3 (nI (s_dt A P))) 61 4 0) 61 5 (nI P)) 0 0 (am_qT1 A (.int (s_pr A P)) (am_sI (am_sI (am_sI (am_sI (am_sI (am_sI σ 61 0 (A 70 (4 * P + (s_dt A P)))) 61 1 0) 61 2 (A 67 P)) 61 3 (nI (s_dt A P))) 61 4 0) 61 5 (nI P))) from c_X5_says2 G D A (am_sI (am_sI (am_sI (am_sI (am_sI (am_sI σ 61 0 (A 70 (4 * P + (s_dt A P)))) 61 1 0) 61 2 (A 67 P)) 61 3 (nI (s_dt A P))) 61 4 0) 61 5 (nI P)) hA (iv_X.sc (by omega) (iv_X.sc (by omega) (iv_X.sc (by omega) (iv_X.sc (by omega) (iv_X.sc (by omega) (iv_X.sc (by omega) hX)))))) (s_rl A) x brl hxx1 61 (ly_k (iv_X.sc (by omega) (iv_X.sc (by omega) (iv_X.sc (by omega) (iv_X.sc (by omega) (iv_X.sc (by omega) (iv_X.sc (by omega) hX)))))).ly 61 rfl) (by decide) (s_nm (A 70 (4 * P + s_dt A P)) 0 (A 67 P) (nI (s_dt A P)) 0 (nI P)) hn1) rfl rfl (Nat.le_of_ble_eq_true rfl) (am_hR (by omega) (by decide)) ⟨Nat.le_refl _, Nat.le_refl _⟩ ?_
  rintro _ σ1 ⟨rfl, hX1, hF1⟩
  refine ev_reti dX6_costOf_55 rfl (Nat.zero_le _) (Nat.zero_le _) ?_
  refine ⟨rfl, hX1, (fr_C.tr (fr_C.wr (by omega) (fr_C.wr (by omega) (fr_C.wr (by omega) (fr_C.wr (by omega) (fr_C.wr (by omega) (fr_C.wr (by omega) fr_C.rf)))))) hF1.C), fun a ha1 ha2 => (hF1.2.2 a (by omega) (by omega)).trans ?_⟩
  funext y
  exact (am_ua (by omega)).trans ((am_ua (by omega)).trans ((am_ua (by omega)).trans ((am_ua (by omega)).trans ((am_ua (by omega)).trans (am_ua (by omega))))))

