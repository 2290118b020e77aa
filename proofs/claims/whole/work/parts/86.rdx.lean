/-! the class: what is read -/
theorem nx_Y {b : Nat → Int32} {n : Nat} : rd_Y n (lx_nx b n) := fun _ ha => ⟨⟨lx_nx_ok ha, lx_atN⟩, lx_nx_ge⟩
/-- the steps so far -/
def st_X (σ : am_M) (l : List Int32) : Prop := σ.2.1 38 6 = nI l.length ∧ ∀ i, i < l.length → σ.2.1 40 i = cx_st (l.getD i 0)
theorem st_X.J {σ τ : am_M} {l : List Int32} (h : st_X σ l) (f : fr_J σ τ) : st_X τ l := ⟨(f.2.2 38 6 (by omega)).trans h.1, fun i hi => (f.2.2 40 i (by omega)).trans (h.2 i hi)⟩
theorem st_gA {l : List Int32} {c : Int32} {i : Nat} (h : i < l.length) : (l ++ [c]).getD i 0 = l.getD i 0 := by
  rw [List.getD_eq_getElem?_getD, List.getD_eq_getElem?_getD, List.getElem?_append_left h]
theorem st_gB {l : List Int32} {c : Int32} : (l ++ [c]).getD l.length 0 = c := by
  rw [List.getD_eq_getElem?_getD, List.getElem?_append_right (Nat.le_refl _), Nat.sub_self]
  rfl
theorem st_X.push {σ : am_M} {l : List Int32} {c x : Int32} (h : st_X σ l) (hc : cx_st c = x) : st_X (am_sI (am_sI σ 40 l.length x) 38 6 (nI (l.length + 1))) (l ++ [c]) := by
  have e : (l ++ [c]).length = l.length + 1 := by rw [List.length_append]; rfl
  refine ⟨by rw [e]; exact am_rs, fun i hi => ?_⟩
  rw [e] at hi
  refine am_ru (by omega) ?_
  by_cases q : i = l.length
  · subst q
    rw [st_gB, hc]
    exact am_rs
  · rw [st_gA (by omega)]
    exact am_ru (by omega) (h.2 i (by omega))
theorem tk_X.st {σ : am_M} {t : lx_T} {k : Nat} {v w : Int32} (h : tk_X σ t) : tk_X (am_sI (am_sI σ 40 k v) 38 6 w) t := ⟨am_ru (by omega) (am_ru (by omega) h.1), am_ru (by omega) (am_ru (by omega) h.2.1), am_ru (by omega) (am_ru (by omega) h.2.2)⟩
theorem cx_rdL {t : lx_T} (h : lx_num t) (h6 : -6 ≤ t.1) : cx_st (rd_cd t.1) = t.1 := by
  rcases h h6 with e | ⟨v, hv, e⟩
  · rcases e with e | e | e | e | e | e <;> rw [e] <;> decide
  · rw [e]
    have e1 : rd_cd (nI v) = nI (100000 + v) := by
      unfold rd_cd
      rw [if_pos (show (0 : Int32) ≤ nI v from (nI_leI (a := 0) (b := v) (by decide) (by omega)).mpr (Nat.zero_le v))]
      exact nI_add 100000 v
    rw [e1, cx_N ((nI_leI (a := 100000) (b := 100000 + v) (by decide) (by omega)).mpr (by omega))]
    have e2 : nI (100000 + v) - nI 100000 = nI (100000 + v - 100000) := pk_sub (by omega)
    rw [show 100000 + v - 100000 = v by omega] at e2
    exact e2
theorem cx_op {x : Int32} (h : x = -7 ∨ x = -8 ∨ x = -10 ∨ x = -11 ∨ x = -12 ∨ x = -13 ∨ x = -14) : cx_st (rd_cd x) = x := by
  rcases h with rfl | rfl | rfl | rfl | rfl | rfl | rfl <;> decide
def am_qF (l : List Int32) (r : lx_F) (σ0 : am_M) : Option Value → am_M → Prop := fun v σ' => (r.1 = true ∧ v = some (.int 1) ∧ fr_K σ0 σ' ∧ tk_X σ' r.2.2 ∧ st_X σ' (l ++ r.2.1)) ∨ (r.1 = false ∧ v = some (.int 0) ∧ fr_K σ0 σ' ∧ σ'.2.1 38 4 = nI r.2.2.2.1)
theorem qF1 {l : List Int32} {r : lx_F} {σ0 σ' : am_M} {cs : List Int32} {t : lx_T} (e : r = (true, cs, t)) (f : fr_K σ0 σ') (h1 : tk_X σ' t) (h2 : st_X σ' (l ++ cs)) : am_qF l r σ0 (some (.int 1)) σ' := by subst e; exact Or.inl ⟨rfl, rfl, f, h1, h2⟩
theorem qF0 {l : List Int32} {r : lx_F} {σ0 σ' : am_M} {cs : List Int32} {t : lx_T} (e : r = (false, cs, t)) (f : fr_K σ0 σ') (h1 : σ'.2.1 38 4 = nI t.2.1) : am_qF l r σ0 (some (.int 0)) σ' := by subst e; exact Or.inr ⟨rfl, rfl, f, h1⟩
/-- a method that reads f, at o begins -/
def pc_C (G : am_G) (b : Nat → Int32) (n : Nat) (M : am_Mi) (d o : Nat) (f : lx_T → lx_F) : Prop := ∀ (D : Nat) (σ : am_M) (l : List Int32) (t : lx_T), tb_T b n σ → tk_X σ t → st_X σ l → lx_K n t → l.length ≤ t.2.1 → am_Mt G (D + d) M [.ref 38, .int (nI o)] σ 0 0 (am_qF l (f t) σ)
theorem pc_C.up {G : am_G} {b : Nat → Int32} {n : Nat} {M : am_Mi} {d d' o : Nat} {f : lx_T → lx_F} (h : pc_C G b n M d' o f) (hd : d' ≤ d) : pc_C G b n M d o f := fun D σ l t h1 h2 h3 h4 h5 => by
  have z := h (D + (d - d')) σ l t h1 h2 h3 h4 h5
  rw [show D + (d - d') + d' = D + d by omega] at z
  exact z
section
variable {k0 : Bool} {sE sO sN sum sub : lx_T → lx_F} {nx : Nat → lx_T} {t : lx_T} {op : Int32 → Bool} {l : List Int32} {i : Nat}
theorem one_a (h : -6 ≤ t.1) : rd_one k0 sE sO nx t = (true, [rd_cd t.1], nx t.2.2) := if_pos h
theorem one_b (h : ¬ -6 ≤ t.1) (h2 : (t.1 ≠ -13 ∧ t.1 ≠ -16) ∨ k0 = false) : rd_one k0 sE sO nx t = (false, [], t) := (if_neg h).trans (if_pos h2)
theorem one_k (hk : k0 = true) (h : t.1 = -13 ∨ t.1 = -16) : ¬ ((t.1 ≠ -13 ∧ t.1 ≠ -16) ∨ k0 = false) := by
  subst hk
  rintro (⟨a, b⟩ | c)
  · exact h.elim a b
  · cases c
theorem one_c (h : ¬ -6 ≤ t.1) (hk : k0 = true) (h1 : t.1 = -16) (h2 : (sE (nx t.2.2)).1 = false ∨ (sE (nx t.2.2)).2.2.1 ≠ -17) : rd_one k0 sE sO nx t = (false, [], (sE (nx t.2.2)).2.2) := (if_neg h).trans ((if_neg (one_k hk (Or.inr h1))).trans ((if_pos h1).trans (if_pos h2)))
theorem one_d (h : ¬ -6 ≤ t.1) (hk : k0 = true) (h1 : t.1 = -16) (h2 : (sE (nx t.2.2)).1 = true) (h3 : (sE (nx t.2.2)).2.2.1 = -17) : rd_one k0 sE sO nx t = (true, (sE (nx t.2.2)).2.1, nx (sE (nx t.2.2)).2.2.2.2) := (if_neg h).trans ((if_neg (one_k hk (Or.inr h1))).trans ((if_pos h1).trans (if_neg (fun z => z.elim (fun y => by rw [h2] at y; cases y) (fun y => y h3)))))
theorem one_e (h : ¬ -6 ≤ t.1) (hk : k0 = true) (h0 : ¬ t.1 = -16) (h1 : t.1 = -13) (h2 : (sO (nx t.2.2)).1 = true) : rd_one k0 sE sO nx t = (true, (sO (nx t.2.2)).2.1 ++ [19], (sO (nx t.2.2)).2.2) := (if_neg h).trans ((if_neg (one_k hk (Or.inl h1))).trans ((if_neg h0).trans (if_pos h2)))
theorem one_f (h : ¬ -6 ≤ t.1) (hk : k0 = true) (h0 : ¬ t.1 = -16) (h1 : t.1 = -13) (h2 : (sO (nx t.2.2)).1 = false) : rd_one k0 sE sO nx t = (false, [], (sO (nx t.2.2)).2.2) := (if_neg h).trans ((if_neg (one_k hk (Or.inl h1))).trans ((if_neg h0).trans (if_neg (by rw [h2]; decide))))
theorem lp_Z (h : 160 ≤ i) : rd_lp op sub nx (160 - i) l t = (true, l, t) := by rw [show 160 - i = 0 by omega]; rfl
theorem lp_N (h : op t.1 = false) : rd_lp op sub nx (160 - i) l t = (true, l, t) := by
  cases e : 160 - i with
  | zero => rfl
  | succ m => exact if_neg (by rw [h]; decide)
theorem lp_S (hi : i < 160) (h : op t.1 = true) (h2 : (sub (nx t.2.2)).1 = true) : rd_lp op sub nx (160 - i) l t = rd_lp op sub nx (160 - (i + 1)) (l ++ (sub (nx t.2.2)).2.1 ++ [rd_cd t.1]) (sub (nx t.2.2)).2.2 := by
  rw [show 160 - i = (160 - (i + 1)) + 1 by omega]
  exact (if_pos h).trans (if_pos h2)
theorem lp_F (hi : i < 160) (h : op t.1 = true) (h2 : (sub (nx t.2.2)).1 = false) : rd_lp op sub nx (160 - i) l t = (false, [], (sub (nx t.2.2)).2.2) := by
  rw [show 160 - i = (160 - (i + 1)) + 1 by omega]
  exact (if_pos h).trans (if_neg (by rw [h2]; decide))
theorem ch_T (h : (sub t).1 = true) : rd_ch op sub nx t = rd_lp op sub nx (160 - 0) (sub t).2.1 (sub t).2.2 := if_pos h
theorem ch_F (h : (sub t).1 = false) : rd_ch op sub nx t = (false, [], (sub t).2.2) := if_neg (by rw [h]; decide)
theorem not_a (h : t.1 = -9) (hk : k0 = false) : rd_not k0 sN sum nx t = (false, [], t) := (if_pos h).trans (if_pos hk)
theorem not_b (h : t.1 = -9) (hk : k0 = true) (h2 : (sN (nx t.2.2)).1 = true) : rd_not k0 sN sum nx t = (true, (sN (nx t.2.2)).2.1 ++ [13], (sN (nx t.2.2)).2.2) := (if_pos h).trans ((if_neg (by rw [hk]; decide)).trans (if_pos h2))
theorem not_c (h : t.1 = -9) (hk : k0 = true) (h2 : (sN (nx t.2.2)).1 = false) : rd_not k0 sN sum nx t = (false, [], (sN (nx t.2.2)).2.2) := (if_pos h).trans ((if_neg (by rw [hk]; decide)).trans (if_neg (by rw [h2]; decide)))
theorem not_d (h : ¬ t.1 = -9) (h2 : (sum t).1 = false) : rd_not k0 sN sum nx t = (false, [], (sum t).2.2) := (if_neg h).trans (if_pos h2)
theorem not_e (h : ¬ t.1 = -9) (h2 : (sum t).1 = true) (h3 : (sum t).2.2.1 ≠ -10 ∧ (sum t).2.2.1 ≠ -11) : rd_not k0 sN sum nx t = (true, (sum t).2.1, (sum t).2.2) := (if_neg h).trans ((if_neg (by rw [h2]; decide)).trans (if_pos h3))
theorem not_n {x : Int32} (h : x = -10 ∨ x = -11) : ¬ (x ≠ -10 ∧ x ≠ -11) := fun z => h.elim z.1 z.2
theorem not_f (h : ¬ t.1 = -9) (h2 : (sum t).1 = true) (h3 : (sum t).2.2.1 = -10 ∨ (sum t).2.2.1 = -11) (h4 : (sum (nx (sum t).2.2.2.2)).1 = true) : rd_not k0 sN sum nx t = (true, (sum t).2.1 ++ (sum (nx (sum t).2.2.2.2)).2.1 ++ [rd_cd (sum t).2.2.1], (sum (nx (sum t).2.2.2.2)).2.2) := (if_neg h).trans ((if_neg (by rw [h2]; decide)).trans ((if_neg (not_n h3)).trans (if_pos h4)))
theorem not_g (h : ¬ t.1 = -9) (h2 : (sum t).1 = true) (h3 : (sum t).2.2.1 = -10 ∨ (sum t).2.2.1 = -11) (h4 : (sum (nx (sum t).2.2.2.2)).1 = false) : rd_not k0 sN sum nx t = (false, [], (sum (nx (sum t).2.2.2.2)).2.2) := (if_neg h).trans ((if_neg (by rw [h2]; decide)).trans ((if_neg (not_n h3)).trans (if_neg (by rw [h4]; decide))))
theorem op_mI {x : Int32} : op_m x = true ↔ x = -14 := by unfold op_m; rw [decide_eq_true_eq]
theorem op_pI {x : Int32} : op_p x = true ↔ (x = -12 ∨ x = -13) := by unfold op_p; rw [Bool.or_eq_true, decide_eq_true_eq, decide_eq_true_eq]
theorem op_aI {x : Int32} : op_a x = true ↔ x = -8 := by unfold op_a; rw [decide_eq_true_eq]
theorem op_oI {x : Int32} : op_o x = true ↔ x = -7 := by unfold op_o; rw [decide_eq_true_eq]
end
theorem len_a {l m : List Int32} : (l ++ m).length = l.length + m.length := List.length_append
theorem len_1 {l : List Int32} {c : Int32} : (l ++ [c]).length = l.length + 1 := List.length_append
set_option maxHeartbeats 400000 in
set_option maxRecDepth 100000 in
theorem c_X4_step (G : am_G) (D : Nat) (b : Nat → Int32) (n : Nat) (σ : am_M) (hB : tb_T b n σ) (l : List Int32) (hl : l.length < 160) (h6 : σ.2.1 38 6 = nI l.length) (x : Int32) : am_Mt G D mX4_step [.ref 38, .int x] σ 0 0 (am_qv (am_sI (am_sI σ 40 l.length x) 38 6 (nI (l.length + 1)))) := by
  refine am_of moX4_step (Nat.le_of_ble_eq_true rfl) ?_
  show am_Ev G mX4_step (am_R D 0 0) 0 0 (am_qv (am_sI (am_sI σ 40 l.length x) 38 6 (nI (l.length + 1)))) 0 [(0, .ref 38), (1, .int x)] [] σ 0 0
  refine ev_aload_n dX4_step_0 rfl rfl ?_
  refine ev_getI (v := nI l.length) dX4_step_1 fl_X4_37 (hB.1.1) h6 ?_
  refine ev_sipush (v := 160) dX4_step_4 (by decide) ?_
  refine ev_icmp_lt (tgt := 11) dX4_step_7 (by decide) (fun _ => ?_) (fun c => absurd (nI_lt (a := l.length) (b := 160) hl (by decide)) c)
  refine ev_aload_n dX4_step_11 rfl rfl ?_
  refine ev_getR (b := 40) dX4_step_12 fl_X4_13 (hB.1.1) (hB.1.2.2.2.2) ?_
  refine ev_aload_n dX4_step_15 rfl rfl ?_
  refine ev_getI (v := nI l.length) dX4_step_16 fl_X4_37 (hB.1.1) h6 ?_
  refine ev_iload_n dX4_step_19 rfl rfl ?_
  refine ev_iast dX4_step_20 (hB.1.2.2.1) (am_ixn (by omega) (by decide)) ?_
  refine ev_aload_n dX4_step_21 rfl rfl ?_
  refine ev_dup dX4_step_22 rfl ?_
  refine ev_getI (v := nI l.length) dX4_step_23 fl_X4_37 (hB.1.1) (am_ru (by omega) h6) ?_
  refine ev_iconst (v := 1) dX4_step_26 (by decide) ?_
  refine ev_iadd (v := nI (l.length + 1)) dX4_step_27 (nI_1 _) ?_
  refine ev_putI dX4_step_28 fl_X4_37 rfl rfl (hB.1.1) ?_
  refine ev_retv dX4_step_31 rfl (Nat.zero_le _) (Nat.zero_le _) ?_
  exact ⟨rfl, rfl⟩

set_option maxHeartbeats 400000 in
set_option maxRecDepth 100000 in
theorem pc_one (G : am_G) (b : Nat → Int32) (n : Nat) (d : Nat) (hd : 6 ≤ d) (o : Nat) (ho : o ≤ 5) (k0 : Bool) (hk0 : k0 = decide (o < 5)) (sE sO : lx_T → lx_F) (hs : k0 = true → pc_C G b n mX4_readE d (o + 1) sE ∧ pc_C G b n mX4_readOne d (o + 1) sO) (m : Nat) (hH : k0 = true → rd_H n m sE ∧ rd_H n m sO) : pc_C G b n mX4_readOne (d + 1) o (rd_one k0 sE sO (lx_nx b n)) := by
  intro D σ l t hB hT hS hK hl
  have h160 := hB.2.2.1
  have k1 := hK.1.1
  have k2 := hK.1.2.1
  have k3 := hK.1.2.2.1
  have k4 := hK.1.2.2.2
  refine am_of moX4_readOne (Nat.le_of_ble_eq_true rfl) ?_
  show am_Ev G mX4_readOne (am_R (D + (d + 1)) 0 0) 0 0 (am_qF l ((rd_one k0 sE sO (lx_nx b n)) t) σ) 0 [(0, .ref 38), (1, .int (nI o))] [] σ 0 0
  refine ev_aload_n dX4_readOne_0 rfl rfl ?_
  refine ev_getI (v := t.1) dX4_readOne_1 fl_X4_47 (hB.1.1) hT.1 ?_
  refine ev_bipush (v := (-6)) dX4_readOne_4 (by decide) ?_
  refine ev_icmp_lt (tgt := 23) dX4_readOne_6 (by decide) (fun c1 => ?_) (fun c1 => ?_)
  · skip
    have h6 : ¬ -6 ≤ t.1 := Int32.not_le.mpr c1
    refine ev_aload_n dX4_readOne_23 rfl rfl ?_
    refine ev_getI (v := t.1) dX4_readOne_24 fl_X4_47 (hB.1.1) hT.1 ?_
    refine ev_bipush (v := (-13)) dX4_readOne_27 (by decide) ?_
    refine ev_icmp_eq (tgt := 41) dX4_readOne_29 (by decide) (fun c2 => ?_) (fun c2 => ?_)
    · skip
      have kk4 : t.2.1 < t.2.2 := k4 (fun e => by rw [e] at c2; exact absurd c2 (by decide))
      refine ev_iload_n dX4_readOne_41 rfl rfl ?_
      refine ev_iconst (v := 5) dX4_readOne_42 (by decide) ?_
      refine ev_icmp_lt (tgt := 48) dX4_readOne_43 (by decide) (fun c3 => ?_) (fun c3 => ?_)
      · skip
        have c3n : o < 5 := (nI_ltI (a := o) (b := 5) (by omega) (by omega)).mp c3
        have hkk : k0 = true := by rw [hk0]; exact decide_eq_true (by omega)
        refine ev_aload_n dX4_readOne_48 rfl rfl ?_
        refine ev_getI (v := t.1) dX4_readOne_49 fl_X4_47 (hB.1.1) hT.1 ?_
        refine ev_bipush (v := (-16)) dX4_readOne_52 (by decide) ?_
        refine ev_icmp_ne (tgt := 88) dX4_readOne_54 (by decide) (fun _ => ?_) (fun c => absurd c ((fun z => absurd (c2.symm.trans z) (by decide))))
        refine ev_aload_n dX4_readOne_88 rfl rfl ?_
        refine ev_callV (as := []) (st := []) dX4_readOne_89 mfX4_next lk_X4_40 (hB.1.1) (by decide) rfl (c_X4_next G D b n σ hB t.2.2 hK.1.2.1 hT.2.2) rfl rfl (Nat.le_of_ble_eq_true rfl) (am_hR (by omega) (by decide)) ⟨Nat.le_refl _, Nat.le_refl _⟩ ?_
        rintro _ σ4 ⟨rfl, hF4, hT4⟩
        have hFF4 : fr_K σ σ4 := fr_K.tr fr_K.rf hF4.K
        have hK4 := nx_Y (b := b) (n := n) _ hK.1.2.1
        have p4 := hK4.2
        have m4 := hK4.1.1.1
        have ml4 := hK4.1.1.2.1
        refine ev_aload_n dX4_readOne_92 rfl rfl ?_
        refine ev_iload_n dX4_readOne_93 rfl rfl ?_
        refine ev_iconst (v := 1) dX4_readOne_94 (by decide) ?_
        refine ev_iadd (v := nI (o + 1)) dX4_readOne_95 (nI_1 _) ?_
        refine ev_callV (as := [.int (nI (o + 1))]) (st := []) dX4_readOne_96 mfX4_readOne lk_X4_82 ((hB.K hFF4).1.1) (by decide) rfl ((hs hkk).2 D σ4 l (lx_nx b n t.2.2) (hB.K hFF4) hT4 (hS.J hF4) hK4.1 (by omega)) rfl rfl (Nat.le_of_ble_eq_true rfl) (am_hR (by omega) (by decide)) ⟨Nat.le_refl _, Nat.le_refl _⟩ ?_
        rintro _ σ5 (⟨ok5, rfl, hF5, hT5, hS5⟩ | ⟨ok5, rfl, hF5, hN5⟩)
        · skip
          have hFF5 : fr_K σ σ5 := fr_K.tr hFF4 hF5
          have hQ5 := (hH hkk).2 (lx_nx b n t.2.2) hK4.1
          have q5 := hQ5.2.1
          have qk5 := (hQ5.2.2 ok5).1
          have qn5 := hQ5.1.1.1
          have qm5 := hQ5.1.1.2.1
          have ql5 := len_a (l := l) (m := (sO (lx_nx b n t.2.2)).2.1)
          refine ev_if_ne (tgt := 104) dX4_readOne_99 (by decide) (fun _ => ?_) (fun c => absurd c (by decide))
          refine ev_aload_n dX4_readOne_104 rfl rfl ?_
          refine ev_bipush (v := (-15)) dX4_readOne_105 (by decide) ?_
          refine ev_callV (as := [.int (-15)]) (st := []) dX4_readOne_107 mfX4_step lk_X4_70 ((hB.K hFF5).1.1) (by decide) rfl (c_X4_step G D b n σ5 (hB.K hFF5) (l ++ (sO (lx_nx b n t.2.2)).2.1) (by omega) hS5.1 (-15)) rfl rfl (Nat.le_of_ble_eq_true rfl) (am_hR (by omega) (by decide)) ⟨Nat.le_refl _, Nat.le_refl _⟩ ?_
          rintro _ _ ⟨rfl, rfl⟩
          have hFF6 : fr_K σ (am_sI (am_sI σ5 40 (l ++ (sO (lx_nx b n t.2.2)).2.1).length (-15)) 38 6 (nI ((l ++ (sO (lx_nx b n t.2.2)).2.1).length + 1))) := fr_K.wr (by omega) (fr_K.wr (by omega) hFF5)
          have le6 := len_1 (l := (l ++ (sO (lx_nx b n t.2.2)).2.1)) (c := 19)
          refine ev_iconst (v := 1) dX4_readOne_110 (by decide) ?_
          refine ev_retz dX4_readOne_111 rfl (Or.inr rfl) (Nat.zero_le _) (Nat.zero_le _) ?_
          refine qF1 (one_e h6 hkk (fun z => absurd (c2.symm.trans z) (by decide)) c2 ok5) hFF6 (tk_X.st hT5) ?_
          have zz := (st_X.push (c := 19) (x := (-15)) hS5 (show cx_st (19) = (-15) from (by decide)))
          simpa only [List.append_assoc, List.append_nil] using zz
        · skip
          have hFF5 : fr_K σ σ5 := fr_K.tr hFF4 hF5
          refine ev_if_ne (tgt := 104) dX4_readOne_99 (by decide) (fun c => absurd (by decide) c) (fun _ => ?_)
          refine ev_iconst (v := 0) dX4_readOne_102 (by decide) ?_
          refine ev_retz dX4_readOne_103 rfl (Or.inl rfl) (Nat.zero_le _) (Nat.zero_le _) ?_
          exact qF0 (one_f h6 hkk (fun z => absurd (c2.symm.trans z) (by decide)) c2 ok5) hFF5 hN5
      · skip
        have c3n : ¬ o < 5 := fun zz => c3 ((nI_ltI (a := o) (b := 5) (by omega) (by omega)).mpr zz)
        have hkk : k0 = false := by rw [hk0]; exact decide_eq_false (by omega)
        refine ev_iconst (v := 0) dX4_readOne_46 (by decide) ?_
        refine ev_retz dX4_readOne_47 rfl (Or.inl rfl) (Nat.zero_le _) (Nat.zero_le _) ?_
        exact qF0 (one_b h6 (Or.inr hkk)) fr_K.rf hT.2.1
    · skip
      refine ev_aload_n dX4_readOne_32 rfl rfl ?_
      refine ev_getI (v := t.1) dX4_readOne_33 fl_X4_47 (hB.1.1) hT.1 ?_
      refine ev_bipush (v := (-16)) dX4_readOne_36 (by decide) ?_
      refine ev_icmp_ne (tgt := 46) dX4_readOne_38 (by decide) (fun c7 => ?_) (fun c7 => ?_)
      · skip
        refine ev_iconst (v := 0) dX4_readOne_46 (by decide) ?_
        refine ev_retz dX4_readOne_47 rfl (Or.inl rfl) (Nat.zero_le _) (Nat.zero_le _) ?_
        exact qF0 (one_b h6 (Or.inl ⟨c2, c7⟩)) fr_K.rf hT.2.1
      · skip
        have kk4 : t.2.1 < t.2.2 := k4 (fun e => by rw [e] at c7; exact absurd c7 (by decide))
        refine ev_iload_n dX4_readOne_41 rfl rfl ?_
        refine ev_iconst (v := 5) dX4_readOne_42 (by decide) ?_
        refine ev_icmp_lt (tgt := 48) dX4_readOne_43 (by decide) (fun c8 => ?_) (fun c8 => ?_)
        · skip
          have c8n : o < 5 := (nI_ltI (a := o) (b := 5) (by omega) (by omega)).mp c8
          have hkk : k0 = true := by rw [hk0]; exact decide_eq_true (by omega)
          refine ev_aload_n dX4_readOne_48 rfl rfl ?_
          refine ev_getI (v := t.1) dX4_readOne_49 fl_X4_47 (hB.1.1) hT.1 ?_
          refine ev_bipush (v := (-16)) dX4_readOne_52 (by decide) ?_
          refine ev_icmp_ne (tgt := 88) dX4_readOne_54 (by decide) (fun c => absurd (c7) c) (fun _ => ?_)
          refine ev_aload_n dX4_readOne_57 rfl rfl ?_
          refine ev_callV (as := []) (st := []) dX4_readOne_58 mfX4_next lk_X4_40 (hB.1.1) (by decide) rfl (c_X4_next G D b n σ hB t.2.2 hK.1.2.1 hT.2.2) rfl rfl (Nat.le_of_ble_eq_true rfl) (am_hR (by omega) (by decide)) ⟨Nat.le_refl _, Nat.le_refl _⟩ ?_
          rintro _ σ9 ⟨rfl, hF9, hT9⟩
          have hFF9 : fr_K σ σ9 := fr_K.tr fr_K.rf hF9.K
          have hK9 := nx_Y (b := b) (n := n) _ hK.1.2.1
          have p9 := hK9.2
          have m9 := hK9.1.1.1
          have ml9 := hK9.1.1.2.1
          refine ev_aload_n dX4_readOne_61 rfl rfl ?_
          refine ev_iload_n dX4_readOne_62 rfl rfl ?_
          refine ev_iconst (v := 1) dX4_readOne_63 (by decide) ?_
          refine ev_iadd (v := nI (o + 1)) dX4_readOne_64 (nI_1 _) ?_
          refine ev_callV (as := [.int (nI (o + 1))]) (st := []) dX4_readOne_65 mfX4_readE lk_X4_64 ((hB.K hFF9).1.1) (by decide) rfl ((hs hkk).1 D σ9 l (lx_nx b n t.2.2) (hB.K hFF9) hT9 (hS.J hF9) hK9.1 (by omega)) rfl rfl (Nat.le_of_ble_eq_true rfl) (am_hR (by omega) (by decide)) ⟨Nat.le_refl _, Nat.le_refl _⟩ ?_
          rintro _ σ10 (⟨ok10, rfl, hF10, hT10, hS10⟩ | ⟨ok10, rfl, hF10, hN10⟩)
          · skip
            have hFF10 : fr_K σ σ10 := fr_K.tr hFF9 hF10
            have hQ10 := (hH hkk).1 (lx_nx b n t.2.2) hK9.1
            have q10 := hQ10.2.1
            have qk10 := (hQ10.2.2 ok10).1
            have qn10 := hQ10.1.1.1
            have qm10 := hQ10.1.1.2.1
            have ql10 := len_a (l := l) (m := (sE (lx_nx b n t.2.2)).2.1)
            refine ev_if_eq (tgt := 80) dX4_readOne_68 (by decide) (fun c => absurd c (by decide)) (fun _ => ?_)
            refine ev_aload_n dX4_readOne_71 rfl rfl ?_
            refine ev_getI (v := (sE (lx_nx b n t.2.2)).2.2.1) dX4_readOne_72 fl_X4_47 ((hB.K hFF10).1.1) hT10.1 ?_
            refine ev_bipush (v := (-17)) dX4_readOne_75 (by decide) ?_
            refine ev_icmp_eq (tgt := 82) dX4_readOne_77 (by decide) (fun c11 => ?_) (fun c11 => ?_)
            · skip
              refine ev_aload_n dX4_readOne_82 rfl rfl ?_
              refine ev_callV (as := []) (st := []) dX4_readOne_83 mfX4_next lk_X4_40 ((hB.K hFF10).1.1) (by decide) rfl (c_X4_next G D b n σ10 (hB.K hFF10) (sE (lx_nx b n t.2.2)).2.2.2.2 hQ10.1.1.2.1 hT10.2.2) rfl rfl (Nat.le_of_ble_eq_true rfl) (am_hR (by omega) (by decide)) ⟨Nat.le_refl _, Nat.le_refl _⟩ ?_
              rintro _ σ12 ⟨rfl, hF12, hT12⟩
              have hFF12 : fr_K σ σ12 := fr_K.tr hFF10 hF12.K
              have hK12 := nx_Y (b := b) (n := n) _ hQ10.1.1.2.1
              have p12 := hK12.2
              have m12 := hK12.1.1.1
              have ml12 := hK12.1.1.2.1
              refine ev_iconst (v := 1) dX4_readOne_86 (by decide) ?_
              refine ev_retz dX4_readOne_87 rfl (Or.inr rfl) (Nat.zero_le _) (Nat.zero_le _) ?_
              refine qF1 (one_d h6 hkk c7 ok10 c11) hFF12 hT12 ?_
              have zz := (hS10.J hF12)
              simpa only [List.append_assoc, List.append_nil] using zz
            · skip
              refine ev_iconst (v := 0) dX4_readOne_80 (by decide) ?_
              refine ev_retz dX4_readOne_81 rfl (Or.inl rfl) (Nat.zero_le _) (Nat.zero_le _) ?_
              exact qF0 (one_c h6 hkk c7 (Or.inr c11)) hFF10 hT10.2.1
          · skip
            have hFF10 : fr_K σ σ10 := fr_K.tr hFF9 hF10
            refine ev_if_eq (tgt := 80) dX4_readOne_68 (by decide) (fun _ => ?_) (fun c => absurd (by decide) c)
            refine ev_iconst (v := 0) dX4_readOne_80 (by decide) ?_
            refine ev_retz dX4_readOne_81 rfl (Or.inl rfl) (Nat.zero_le _) (Nat.zero_le _) ?_
            exact qF0 (one_c h6 hkk c7 (Or.inl ok10)) hFF10 hN10
        · skip
          have c8n : ¬ o < 5 := fun zz => c8 ((nI_ltI (a := o) (b := 5) (by omega) (by omega)).mpr zz)
          have hkk : k0 = false := by rw [hk0]; exact decide_eq_false (by omega)
          refine ev_iconst (v := 0) dX4_readOne_46 (by decide) ?_
          refine ev_retz dX4_readOne_47 rfl (Or.inl rfl) (Nat.zero_le _) (Nat.zero_le _) ?_
          exact qF0 (one_b h6 (Or.inr hkk)) fr_K.rf hT.2.1
  · skip
    have h6 : -6 ≤ t.1 := Int32.not_lt.mp c1
    have kk4 : t.2.1 < t.2.2 := k4 (fun e => by rw [e] at h6; exact absurd h6 (by decide))
    refine ev_aload_n dX4_readOne_9 rfl rfl ?_
    refine ev_aload_n dX4_readOne_10 rfl rfl ?_
    refine ev_getI (v := t.1) dX4_readOne_11 fl_X4_47 (hB.1.1) hT.1 ?_
    refine ev_callV (as := [.int t.1]) (st := []) dX4_readOne_14 mfX4_step lk_X4_70 (hB.1.1) (by decide) rfl (c_X4_step G D b n σ hB l (by omega) hS.1 t.1) rfl rfl (Nat.le_of_ble_eq_true rfl) (am_hR (by omega) (by decide)) ⟨Nat.le_refl _, Nat.le_refl _⟩ ?_
    rintro _ _ ⟨rfl, rfl⟩
    have hFF13 : fr_K σ (am_sI (am_sI σ 40 l.length t.1) 38 6 (nI (l.length + 1))) := fr_K.wr (by omega) (fr_K.wr (by omega) fr_K.rf)
    have le13 := len_1 (l := l) (c := rd_cd t.1)
    refine ev_aload_n dX4_readOne_17 rfl rfl ?_
    refine ev_callV (as := []) (st := []) dX4_readOne_18 mfX4_next lk_X4_40 ((hB.K hFF13).1.1) (by decide) rfl (c_X4_next G D b n (am_sI (am_sI σ 40 l.length t.1) 38 6 (nI (l.length + 1))) (hB.K hFF13) t.2.2 hK.1.2.1 (tk_X.st hT).2.2) rfl rfl (Nat.le_of_ble_eq_true rfl) (am_hR (by omega) (by decide)) ⟨Nat.le_refl _, Nat.le_refl _⟩ ?_
    rintro _ σ14 ⟨rfl, hF14, hT14⟩
    have hFF14 : fr_K σ σ14 := fr_K.tr hFF13 hF14.K
    have hK14 := nx_Y (b := b) (n := n) _ hK.1.2.1
    have p14 := hK14.2
    have m14 := hK14.1.1.1
    have ml14 := hK14.1.1.2.1
    refine ev_iconst (v := 1) dX4_readOne_21 (by decide) ?_
    refine ev_retz dX4_readOne_22 rfl (Or.inr rfl) (Nat.zero_le _) (Nat.zero_le _) ?_
    refine qF1 (one_a h6) hFF14 hT14 ?_
    have zz := ((st_X.push (c := rd_cd t.1) (x := t.1) hS (show cx_st (rd_cd t.1) = t.1 from (cx_rdL hK.2 h6))).J hF14)
    simpa only [List.append_assoc, List.append_nil] using zz
set_option maxHeartbeats 400000 in
set_option maxRecDepth 100000 in
theorem pc_term (G : am_G) (b : Nat → Int32) (n : Nat) (d : Nat) (hd : 6 ≤ d) (o : Nat) (ho : o ≤ 5) (sub : lx_T → lx_F) (hs : pc_C G b n mX4_readOne d o sub) (m : Nat) (hH : rd_H n m sub) : pc_C G b n mX4_readTerm (d + 1) o (rd_ch op_m sub (lx_nx b n)) := by
  intro D σ l t hB hT hS hK hl
  have h160 := hB.2.2.1
  have k1 := hK.1.1
  have k2 := hK.1.2.1
  have k3 := hK.1.2.2.1
  have k4 := hK.1.2.2.2
  refine am_of moX4_readTerm (Nat.le_of_ble_eq_true rfl) ?_
  show am_Ev G mX4_readTerm (am_R (D + (d + 1)) 0 0) 0 0 (am_qF l ((rd_ch op_m sub (lx_nx b n)) t) σ) 0 [(0, .ref 38), (1, .int (nI o))] [] σ 0 0
  refine ev_aload_n dX4_readTerm_0 rfl rfl ?_
  refine ev_iload_n dX4_readTerm_1 rfl rfl ?_
  refine ev_callV (as := [.int (nI o)]) (st := []) dX4_readTerm_2 mfX4_readOne lk_X4_82 (hB.1.1) (by decide) rfl (hs D σ l t hB hT hS hK (by omega)) rfl rfl (Nat.le_of_ble_eq_true rfl) (am_hR (by omega) (by decide)) ⟨Nat.le_refl _, Nat.le_refl _⟩ ?_
  rintro _ σ1 (⟨ok1, rfl, hF1, hT1, hS1⟩ | ⟨ok1, rfl, hF1, hN1⟩)
  · skip
    have hFF1 : fr_K σ σ1 := fr_K.tr fr_K.rf hF1
    have hQ1 := hH t hK
    have q1 := hQ1.2.1
    have qk1 := (hQ1.2.2 ok1).1
    have qn1 := hQ1.1.1.1
    have qm1 := hQ1.1.1.2.1
    have ql1 := len_a (l := l) (m := (sub t).2.1)
    refine ev_if_ne (tgt := 10) dX4_readTerm_5 (by decide) (fun _ => ?_) (fun c => absurd c (by decide))
    refine ev_iconst (v := 0) dX4_readTerm_10 (by decide) ?_
    refine ev_istore_n (lv' := [(0, .ref 38), (1, .int (nI o)), (2, .int 0)]) dX4_readTerm_11 rfl (by decide) rfl ?_
    have lp : ∀ (f : Nat) (i : Nat) (lc : List Int32) (t1 : lx_T) (σ1 : am_M), (i ≤ 160) → (rd_ch op_m sub (lx_nx b n) t = rd_lp op_m sub (lx_nx b n) (160 - i) lc t1) → (tk_X σ1 t1) → (st_X σ1 (l ++ lc)) → (lx_K n t1) → ((l ++ lc).length ≤ t1.2.1) → (fr_K σ σ1) → 160 - i < f → am_Ev G mX4_readTerm (am_R (D + (d + 1)) 0 0) 0 0 (am_qF l ((rd_ch op_m sub (lx_nx b n)) t) σ) 12 [(0, .ref 38), (1, .int (nI o)), (2, .int (nI i))] [] σ1 0 0 := by
      intro f
      induction f with
      | zero => intro i lc t1 σ1 hi hrd hT1 hS1 hK1 hle hF1 hf; exact absurd hf (Nat.not_lt_zero _)
      | succ f ih =>
        intro i lc t1 σ1 hi hrd hT1 hS1 hK1 hle hF1 hf
        have k1 := hK1.1.1
        have k2 := hK1.1.2.1
        have k3 := hK1.1.2.2.1
        have k4 := hK1.1.2.2.2
        refine ev_iload_n dX4_readTerm_12 rfl rfl ?_
        refine ev_sipush (v := 160) dX4_readTerm_13 (by decide) ?_
        refine ev_icmp_ge (tgt := 54) dX4_readTerm_16 (by decide) (fun c2 => ?_) (fun c2 => ?_)
        · skip
          have c2n : 160 ≤ i := (nI_leI (a := 160) (b := i) (by omega) (by omega)).mp c2
          refine ev_iconst (v := 1) dX4_readTerm_54 (by decide) ?_
          refine ev_retz dX4_readTerm_55 rfl (Or.inr rfl) (Nat.zero_le _) (Nat.zero_le _) ?_
          refine qF1 (by rw [hrd, lp_Z (by omega)]) hF1 hT1 ?_
          have zz := hS1
          simpa only [List.append_assoc, List.append_nil] using zz
        · skip
          have c2n : ¬ 160 ≤ i := fun zz => c2 ((nI_leI (a := 160) (b := i) (by omega) (by omega)).mpr zz)
          refine ev_aload_n dX4_readTerm_19 rfl rfl ?_
          refine ev_getI (v := t1.1) dX4_readTerm_20 fl_X4_47 ((hB.K hF1).1.1) hT1.1 ?_
          refine ev_bipush (v := (-14)) dX4_readTerm_23 (by decide) ?_
          refine ev_icmp_ne (tgt := 54) dX4_readTerm_25 (by decide) (fun c3 => ?_) (fun c3 => ?_)
          · skip
            refine ev_iconst (v := 1) dX4_readTerm_54 (by decide) ?_
            refine ev_retz dX4_readTerm_55 rfl (Or.inr rfl) (Nat.zero_le _) (Nat.zero_le _) ?_
            refine qF1 (by rw [hrd, lp_N (lx_Fa op_mI c3)]) hF1 hT1 ?_
            have zz := hS1
            simpa only [List.append_assoc, List.append_nil] using zz
          · skip
            have hop : t1.1 = -14 := c3
            have kk4 : t1.2.1 < t1.2.2 := k4 (fun e => by rw [e] at hop; revert hop; decide)
            refine ev_aload_n dX4_readTerm_28 rfl rfl ?_
            refine ev_callV (as := []) (st := []) dX4_readTerm_29 mfX4_next lk_X4_40 ((hB.K hF1).1.1) (by decide) rfl (c_X4_next G D b n σ1 (hB.K hF1) t1.2.2 hK1.1.2.1 hT1.2.2) rfl rfl (Nat.le_of_ble_eq_true rfl) (am_hR (by omega) (by decide)) ⟨Nat.le_refl _, Nat.le_refl _⟩ ?_
            rintro _ σ4 ⟨rfl, hF4, hT4⟩
            have hFF4 : fr_K σ σ4 := fr_K.tr hF1 hF4.K
            have hK4 := nx_Y (b := b) (n := n) _ hK1.1.2.1
            have p4 := hK4.2
            have m4 := hK4.1.1.1
            have ml4 := hK4.1.1.2.1
            refine ev_aload_n dX4_readTerm_32 rfl rfl ?_
            refine ev_iload_n dX4_readTerm_33 rfl rfl ?_
            refine ev_callV (as := [.int (nI o)]) (st := []) dX4_readTerm_34 mfX4_readOne lk_X4_82 ((hB.K hFF4).1.1) (by decide) rfl (hs D σ4 (l ++ lc) (lx_nx b n t1.2.2) (hB.K hFF4) hT4 (hS1.J hF4) hK4.1 (by omega)) rfl rfl (Nat.le_of_ble_eq_true rfl) (am_hR (by omega) (by decide)) ⟨Nat.le_refl _, Nat.le_refl _⟩ ?_
            rintro _ σ5 (⟨ok5, rfl, hF5, hT5, hS5⟩ | ⟨ok5, rfl, hF5, hN5⟩)
            · skip
              have hFF5 : fr_K σ σ5 := fr_K.tr hFF4 hF5
              have hQ5 := hH (lx_nx b n t1.2.2) hK4.1
              have q5 := hQ5.2.1
              have qk5 := (hQ5.2.2 ok5).1
              have qn5 := hQ5.1.1.1
              have qm5 := hQ5.1.1.2.1
              have ql5 := len_a (l := (l ++ lc)) (m := (sub (lx_nx b n t1.2.2)).2.1)
              refine ev_if_ne (tgt := 42) dX4_readTerm_37 (by decide) (fun _ => ?_) (fun c => absurd c (by decide))
              refine ev_aload_n dX4_readTerm_42 rfl rfl ?_
              refine ev_bipush (v := (-14)) dX4_readTerm_43 (by decide) ?_
              refine ev_callV (as := [.int (-14)]) (st := []) dX4_readTerm_45 mfX4_step lk_X4_70 ((hB.K hFF5).1.1) (by decide) rfl (c_X4_step G D b n σ5 (hB.K hFF5) ((l ++ lc) ++ (sub (lx_nx b n t1.2.2)).2.1) (by omega) hS5.1 (-14)) rfl rfl (Nat.le_of_ble_eq_true rfl) (am_hR (by omega) (by decide)) ⟨Nat.le_refl _, Nat.le_refl _⟩ ?_
              rintro _ _ ⟨rfl, rfl⟩
              have hFF6 : fr_K σ (am_sI (am_sI σ5 40 ((l ++ lc) ++ (sub (lx_nx b n t1.2.2)).2.1).length (-14)) 38 6 (nI (((l ++ lc) ++ (sub (lx_nx b n t1.2.2)).2.1).length + 1))) := fr_K.wr (by omega) (fr_K.wr (by omega) hFF5)
              have le6 := len_1 (l := ((l ++ lc) ++ (sub (lx_nx b n t1.2.2)).2.1)) (c := rd_cd t1.1)
              refine ev_iinc (lv' := [(0, .ref 38), (1, .int (nI o)), (2, .int (nI (i + 1)))]) (v := nI (i + 1)) dX4_readTerm_48 rfl (nI_1 _) (by decide) rfl ?_
              refine ev_goto (tgt := 12) dX4_readTerm_51 (by decide) ?_
              exact ih (i + 1) (lc ++ (sub (lx_nx b n t1.2.2)).2.1 ++ [rd_cd t1.1]) ((sub (lx_nx b n t1.2.2)).2.2) (am_sI (am_sI σ5 40 ((l ++ lc) ++ (sub (lx_nx b n t1.2.2)).2.1).length (-14)) 38 6 (nI (((l ++ lc) ++ (sub (lx_nx b n t1.2.2)).2.1).length + 1))) (by omega) (by rw [hrd, lp_S (by omega) (op_mI.mpr hop) ok5]) (tk_X.st hT5) (by have zz := (st_X.push (c := rd_cd t1.1) (x := (-14)) hS5 (show cx_st (rd_cd t1.1) = (-14) from (by rw [hop]; decide))); simpa only [List.append_assoc] using zz) hQ5.1 (by simp only [List.length_append, List.length_singleton] at *; omega) hFF6 (by omega)
            · skip
              have hFF5 : fr_K σ σ5 := fr_K.tr hFF4 hF5
              refine ev_if_ne (tgt := 42) dX4_readTerm_37 (by decide) (fun c => absurd (by decide) c) (fun _ => ?_)
              refine ev_iconst (v := 0) dX4_readTerm_40 (by decide) ?_
              refine ev_retz dX4_readTerm_41 rfl (Or.inl rfl) (Nat.zero_le _) (Nat.zero_le _) ?_
              exact qF0 (by rw [hrd, lp_F (by omega) (op_mI.mpr hop) ok5]) hFF5 hN5
    exact lp _ 0 ((sub t).2.1) ((sub t).2.2) σ1 (Nat.zero_le _) (ch_T ok1) hT1 hS1 hQ1.1 (by omega) hFF1 (Nat.lt_succ_self _)
  · skip
    have hFF1 : fr_K σ σ1 := fr_K.tr fr_K.rf hF1
    refine ev_if_ne (tgt := 10) dX4_readTerm_5 (by decide) (fun c => absurd (by decide) c) (fun _ => ?_)
    refine ev_iconst (v := 0) dX4_readTerm_8 (by decide) ?_
    refine ev_retz dX4_readTerm_9 rfl (Or.inl rfl) (Nat.zero_le _) (Nat.zero_le _) ?_
    exact qF0 (ch_F ok1) hFF1 hN1
set_option maxHeartbeats 400000 in
set_option maxRecDepth 100000 in
theorem pc_sum (G : am_G) (b : Nat → Int32) (n : Nat) (d : Nat) (hd : 6 ≤ d) (o : Nat) (ho : o ≤ 5) (sub : lx_T → lx_F) (hs : pc_C G b n mX4_readTerm d o sub) (m : Nat) (hH : rd_H n m sub) : pc_C G b n mX4_readSum (d + 1) o (rd_ch op_p sub (lx_nx b n)) := by
  intro D σ l t hB hT hS hK hl
  have h160 := hB.2.2.1
  have k1 := hK.1.1
  have k2 := hK.1.2.1
  have k3 := hK.1.2.2.1
  have k4 := hK.1.2.2.2
  refine am_of moX4_readSum (Nat.le_of_ble_eq_true rfl) ?_
  show am_Ev G mX4_readSum (am_R (D + (d + 1)) 0 0) 0 0 (am_qF l ((rd_ch op_p sub (lx_nx b n)) t) σ) 0 [(0, .ref 38), (1, .int (nI o))] [] σ 0 0
  refine ev_aload_n dX4_readSum_0 rfl rfl ?_
  refine ev_iload_n dX4_readSum_1 rfl rfl ?_
  refine ev_callV (as := [.int (nI o)]) (st := []) dX4_readSum_2 mfX4_readTerm lk_X4_79 (hB.1.1) (by decide) rfl (hs D σ l t hB hT hS hK (by omega)) rfl rfl (Nat.le_of_ble_eq_true rfl) (am_hR (by omega) (by decide)) ⟨Nat.le_refl _, Nat.le_refl _⟩ ?_
  rintro _ σ1 (⟨ok1, rfl, hF1, hT1, hS1⟩ | ⟨ok1, rfl, hF1, hN1⟩)
  · skip
    have hFF1 : fr_K σ σ1 := fr_K.tr fr_K.rf hF1
    have hQ1 := hH t hK
    have q1 := hQ1.2.1
    have qk1 := (hQ1.2.2 ok1).1
    have qn1 := hQ1.1.1.1
    have qm1 := hQ1.1.1.2.1
    have ql1 := len_a (l := l) (m := (sub t).2.1)
    refine ev_if_ne (tgt := 10) dX4_readSum_5 (by decide) (fun _ => ?_) (fun c => absurd c (by decide))
    refine ev_iconst (v := 0) dX4_readSum_10 (by decide) ?_
    refine ev_istore_n (lv' := [(0, .ref 38), (1, .int (nI o)), (2, .int 0)]) dX4_readSum_11 rfl (by decide) rfl ?_
    have lp : ∀ (f : Nat) (i : Nat) (lc : List Int32) (t1 : lx_T) (σ1 : am_M), (i ≤ 160) → (rd_ch op_p sub (lx_nx b n) t = rd_lp op_p sub (lx_nx b n) (160 - i) lc t1) → (tk_X σ1 t1) → (st_X σ1 (l ++ lc)) → (lx_K n t1) → ((l ++ lc).length ≤ t1.2.1) → (fr_K σ σ1) → 160 - i < f → am_Ev G mX4_readSum (am_R (D + (d + 1)) 0 0) 0 0 (am_qF l ((rd_ch op_p sub (lx_nx b n)) t) σ) 12 [(0, .ref 38), (1, .int (nI o)), (2, .int (nI i))] [] σ1 0 0 := by
      intro f
      induction f with
      | zero => intro i lc t1 σ1 hi hrd hT1 hS1 hK1 hle hF1 hf; exact absurd hf (Nat.not_lt_zero _)
      | succ f ih =>
        intro i lc t1 σ1 hi hrd hT1 hS1 hK1 hle hF1 hf
        have k1 := hK1.1.1
        have k2 := hK1.1.2.1
        have k3 := hK1.1.2.2.1
        have k4 := hK1.1.2.2.2
        refine ev_iload_n dX4_readSum_12 rfl rfl ?_
        refine ev_sipush (v := 160) dX4_readSum_13 (by decide) ?_
        refine ev_icmp_ge (tgt := 67) dX4_readSum_16 (by decide) (fun c2 => ?_) (fun c2 => ?_)
        · skip
          have c2n : 160 ≤ i := (nI_leI (a := 160) (b := i) (by omega) (by omega)).mp c2
          refine ev_iconst (v := 1) dX4_readSum_67 (by decide) ?_
          refine ev_retz dX4_readSum_68 rfl (Or.inr rfl) (Nat.zero_le _) (Nat.zero_le _) ?_
          refine qF1 (by rw [hrd, lp_Z (by omega)]) hF1 hT1 ?_
          have zz := hS1
          simpa only [List.append_assoc, List.append_nil] using zz
        · skip
          have c2n : ¬ 160 ≤ i := fun zz => c2 ((nI_leI (a := 160) (b := i) (by omega) (by omega)).mpr zz)
          refine ev_aload_n dX4_readSum_19 rfl rfl ?_
          refine ev_getI (v := t1.1) dX4_readSum_20 fl_X4_47 ((hB.K hF1).1.1) hT1.1 ?_
          refine ev_bipush (v := (-12)) dX4_readSum_23 (by decide) ?_
          refine ev_icmp_eq (tgt := 37) dX4_readSum_25 (by decide) (fun c3 => ?_) (fun c3 => ?_)
          · skip
            have hop : t1.1 = -12 ∨ t1.1 = -13 := Or.inl c3
            have kk4 : t1.2.1 < t1.2.2 := k4 (fun e => by rw [e] at hop; revert hop; decide)
            refine ev_aload_n dX4_readSum_37 rfl rfl ?_
            refine ev_getI (v := t1.1) dX4_readSum_38 fl_X4_47 ((hB.K hF1).1.1) hT1.1 ?_
            refine ev_istore_n (lv' := [(0, .ref 38), (1, .int (nI o)), (2, .int (nI i)), (3, .int t1.1)]) dX4_readSum_41 rfl (by decide) rfl ?_
            refine ev_aload_n dX4_readSum_42 rfl rfl ?_
            refine ev_callV (as := []) (st := []) dX4_readSum_43 mfX4_next lk_X4_40 ((hB.K hF1).1.1) (by decide) rfl (c_X4_next G D b n σ1 (hB.K hF1) t1.2.2 hK1.1.2.1 hT1.2.2) rfl rfl (Nat.le_of_ble_eq_true rfl) (am_hR (by omega) (by decide)) ⟨Nat.le_refl _, Nat.le_refl _⟩ ?_
            rintro _ σ4 ⟨rfl, hF4, hT4⟩
            have hFF4 : fr_K σ σ4 := fr_K.tr hF1 hF4.K
            have hK4 := nx_Y (b := b) (n := n) _ hK1.1.2.1
            have p4 := hK4.2
            have m4 := hK4.1.1.1
            have ml4 := hK4.1.1.2.1
            refine ev_aload_n dX4_readSum_46 rfl rfl ?_
            refine ev_iload_n dX4_readSum_47 rfl rfl ?_
            refine ev_callV (as := [.int (nI o)]) (st := []) dX4_readSum_48 mfX4_readTerm lk_X4_79 ((hB.K hFF4).1.1) (by decide) rfl (hs D σ4 (l ++ lc) (lx_nx b n t1.2.2) (hB.K hFF4) hT4 (hS1.J hF4) hK4.1 (by omega)) rfl rfl (Nat.le_of_ble_eq_true rfl) (am_hR (by omega) (by decide)) ⟨Nat.le_refl _, Nat.le_refl _⟩ ?_
            rintro _ σ5 (⟨ok5, rfl, hF5, hT5, hS5⟩ | ⟨ok5, rfl, hF5, hN5⟩)
            · skip
              have hFF5 : fr_K σ σ5 := fr_K.tr hFF4 hF5
              have hQ5 := hH (lx_nx b n t1.2.2) hK4.1
              have q5 := hQ5.2.1
              have qk5 := (hQ5.2.2 ok5).1
              have qn5 := hQ5.1.1.1
              have qm5 := hQ5.1.1.2.1
              have ql5 := len_a (l := (l ++ lc)) (m := (sub (lx_nx b n t1.2.2)).2.1)
              refine ev_if_ne (tgt := 56) dX4_readSum_51 (by decide) (fun _ => ?_) (fun c => absurd c (by decide))
              refine ev_aload_n dX4_readSum_56 rfl rfl ?_
              refine ev_iload_n dX4_readSum_57 rfl rfl ?_
              refine ev_callV (as := [.int t1.1]) (st := []) dX4_readSum_58 mfX4_step lk_X4_70 ((hB.K hFF5).1.1) (by decide) rfl (c_X4_step G D b n σ5 (hB.K hFF5) ((l ++ lc) ++ (sub (lx_nx b n t1.2.2)).2.1) (by omega) hS5.1 t1.1) rfl rfl (Nat.le_of_ble_eq_true rfl) (am_hR (by omega) (by decide)) ⟨Nat.le_refl _, Nat.le_refl _⟩ ?_
              rintro _ _ ⟨rfl, rfl⟩
              have hFF6 : fr_K σ (am_sI (am_sI σ5 40 ((l ++ lc) ++ (sub (lx_nx b n t1.2.2)).2.1).length t1.1) 38 6 (nI (((l ++ lc) ++ (sub (lx_nx b n t1.2.2)).2.1).length + 1))) := fr_K.wr (by omega) (fr_K.wr (by omega) hFF5)
              have le6 := len_1 (l := ((l ++ lc) ++ (sub (lx_nx b n t1.2.2)).2.1)) (c := rd_cd t1.1)
              refine ev_iinc (lv' := [(0, .ref 38), (1, .int (nI o)), (2, .int (nI (i + 1))), (3, .int t1.1)]) (v := nI (i + 1)) dX4_readSum_61 rfl (nI_1 _) (by decide) rfl ?_
              refine ev_goto (tgt := 12) dX4_readSum_64 (by decide) ?_
              refine ev_keep (lv' := [(0, .ref 38), (1, .int (nI o)), (2, .int (nI (i + 1)))]) [0, 1, 2] rfl ?_
              exact ih (i + 1) (lc ++ (sub (lx_nx b n t1.2.2)).2.1 ++ [rd_cd t1.1]) ((sub (lx_nx b n t1.2.2)).2.2) (am_sI (am_sI σ5 40 ((l ++ lc) ++ (sub (lx_nx b n t1.2.2)).2.1).length t1.1) 38 6 (nI (((l ++ lc) ++ (sub (lx_nx b n t1.2.2)).2.1).length + 1))) (by omega) (by rw [hrd, lp_S (by omega) (op_pI.mpr hop) ok5]) (tk_X.st hT5) (by have zz := (st_X.push (c := rd_cd t1.1) (x := t1.1) hS5 (show cx_st (rd_cd t1.1) = t1.1 from (cx_op (by rcases hop with z | z <;> rw [z] <;> decide)))); simpa only [List.append_assoc] using zz) hQ5.1 (by simp only [List.length_append, List.length_singleton] at *; omega) hFF6 (by omega)
            · skip
              have hFF5 : fr_K σ σ5 := fr_K.tr hFF4 hF5
              refine ev_if_ne (tgt := 56) dX4_readSum_51 (by decide) (fun c => absurd (by decide) c) (fun _ => ?_)
              refine ev_iconst (v := 0) dX4_readSum_54 (by decide) ?_
              refine ev_retz dX4_readSum_55 rfl (Or.inl rfl) (Nat.zero_le _) (Nat.zero_le _) ?_
              exact qF0 (by rw [hrd, lp_F (by omega) (op_pI.mpr hop) ok5]) hFF5 hN5
          · skip
            refine ev_aload_n dX4_readSum_28 rfl rfl ?_
            refine ev_getI (v := t1.1) dX4_readSum_29 fl_X4_47 ((hB.K hF1).1.1) hT1.1 ?_
            refine ev_bipush (v := (-13)) dX4_readSum_32 (by decide) ?_
            refine ev_icmp_ne (tgt := 67) dX4_readSum_34 (by decide) (fun c7 => ?_) (fun c7 => ?_)
            · skip
              refine ev_iconst (v := 1) dX4_readSum_67 (by decide) ?_
              refine ev_retz dX4_readSum_68 rfl (Or.inr rfl) (Nat.zero_le _) (Nat.zero_le _) ?_
              refine qF1 (by rw [hrd, lp_N (lx_Fa op_pI (fun z => z.elim c3 c7))]) hF1 hT1 ?_
              have zz := hS1
              simpa only [List.append_assoc, List.append_nil] using zz
            · skip
              have hop : t1.1 = -12 ∨ t1.1 = -13 := Or.inr c7
              have kk4 : t1.2.1 < t1.2.2 := k4 (fun e => by rw [e] at hop; revert hop; decide)
              refine ev_aload_n dX4_readSum_37 rfl rfl ?_
              refine ev_getI (v := t1.1) dX4_readSum_38 fl_X4_47 ((hB.K hF1).1.1) hT1.1 ?_
              refine ev_istore_n (lv' := [(0, .ref 38), (1, .int (nI o)), (2, .int (nI i)), (3, .int t1.1)]) dX4_readSum_41 rfl (by decide) rfl ?_
              refine ev_aload_n dX4_readSum_42 rfl rfl ?_
              refine ev_callV (as := []) (st := []) dX4_readSum_43 mfX4_next lk_X4_40 ((hB.K hF1).1.1) (by decide) rfl (c_X4_next G D b n σ1 (hB.K hF1) t1.2.2 hK1.1.2.1 hT1.2.2) rfl rfl (Nat.le_of_ble_eq_true rfl) (am_hR (by omega) (by decide)) ⟨Nat.le_refl _, Nat.le_refl _⟩ ?_
              rintro _ σ8 ⟨rfl, hF8, hT8⟩
              have hFF8 : fr_K σ σ8 := fr_K.tr hF1 hF8.K
              have hK8 := nx_Y (b := b) (n := n) _ hK1.1.2.1
              have p8 := hK8.2
              have m8 := hK8.1.1.1
              have ml8 := hK8.1.1.2.1
              refine ev_aload_n dX4_readSum_46 rfl rfl ?_
              refine ev_iload_n dX4_readSum_47 rfl rfl ?_
              refine ev_callV (as := [.int (nI o)]) (st := []) dX4_readSum_48 mfX4_readTerm lk_X4_79 ((hB.K hFF8).1.1) (by decide) rfl (hs D σ8 (l ++ lc) (lx_nx b n t1.2.2) (hB.K hFF8) hT8 (hS1.J hF8) hK8.1 (by omega)) rfl rfl (Nat.le_of_ble_eq_true rfl) (am_hR (by omega) (by decide)) ⟨Nat.le_refl _, Nat.le_refl _⟩ ?_
              rintro _ σ9 (⟨ok9, rfl, hF9, hT9, hS9⟩ | ⟨ok9, rfl, hF9, hN9⟩)
              · skip
                have hFF9 : fr_K σ σ9 := fr_K.tr hFF8 hF9
                have hQ9 := hH (lx_nx b n t1.2.2) hK8.1
                have q9 := hQ9.2.1
                have qk9 := (hQ9.2.2 ok9).1
                have qn9 := hQ9.1.1.1
                have qm9 := hQ9.1.1.2.1
                have ql9 := len_a (l := (l ++ lc)) (m := (sub (lx_nx b n t1.2.2)).2.1)
                refine ev_if_ne (tgt := 56) dX4_readSum_51 (by decide) (fun _ => ?_) (fun c => absurd c (by decide))
                refine ev_aload_n dX4_readSum_56 rfl rfl ?_
                refine ev_iload_n dX4_readSum_57 rfl rfl ?_
                refine ev_callV (as := [.int t1.1]) (st := []) dX4_readSum_58 mfX4_step lk_X4_70 ((hB.K hFF9).1.1) (by decide) rfl (c_X4_step G D b n σ9 (hB.K hFF9) ((l ++ lc) ++ (sub (lx_nx b n t1.2.2)).2.1) (by omega) hS9.1 t1.1) rfl rfl (Nat.le_of_ble_eq_true rfl) (am_hR (by omega) (by decide)) ⟨Nat.le_refl _, Nat.le_refl _⟩ ?_
                rintro _ _ ⟨rfl, rfl⟩
                have hFF10 : fr_K σ (am_sI (am_sI σ9 40 ((l ++ lc) ++ (sub (lx_nx b n t1.2.2)).2.1).length t1.1) 38 6 (nI (((l ++ lc) ++ (sub (lx_nx b n t1.2.2)).2.1).length + 1))) := fr_K.wr (by omega) (fr_K.wr (by omega) hFF9)
                have le10 := len_1 (l := ((l ++ lc) ++ (sub (lx_nx b n t1.2.2)).2.1)) (c := rd_cd t1.1)
                refine ev_iinc (lv' := [(0, .ref 38), (1, .int (nI o)), (2, .int (nI (i + 1))), (3, .int t1.1)]) (v := nI (i + 1)) dX4_readSum_61 rfl (nI_1 _) (by decide) rfl ?_
                refine ev_goto (tgt := 12) dX4_readSum_64 (by decide) ?_
                refine ev_keep (lv' := [(0, .ref 38), (1, .int (nI o)), (2, .int (nI (i + 1)))]) [0, 1, 2] rfl ?_
                exact ih (i + 1) (lc ++ (sub (lx_nx b n t1.2.2)).2.1 ++ [rd_cd t1.1]) ((sub (lx_nx b n t1.2.2)).2.2) (am_sI (am_sI σ9 40 ((l ++ lc) ++ (sub (lx_nx b n t1.2.2)).2.1).length t1.1) 38 6 (nI (((l ++ lc) ++ (sub (lx_nx b n t1.2.2)).2.1).length + 1))) (by omega) (by rw [hrd, lp_S (by omega) (op_pI.mpr hop) ok9]) (tk_X.st hT9) (by have zz := (st_X.push (c := rd_cd t1.1) (x := t1.1) hS9 (show cx_st (rd_cd t1.1) = t1.1 from (cx_op (by rcases hop with z | z <;> rw [z] <;> decide)))); simpa only [List.append_assoc] using zz) hQ9.1 (by simp only [List.length_append, List.length_singleton] at *; omega) hFF10 (by omega)
              · skip
                have hFF9 : fr_K σ σ9 := fr_K.tr hFF8 hF9
                refine ev_if_ne (tgt := 56) dX4_readSum_51 (by decide) (fun c => absurd (by decide) c) (fun _ => ?_)
                refine ev_iconst (v := 0) dX4_readSum_54 (by decide) ?_
                refine ev_retz dX4_readSum_55 rfl (Or.inl rfl) (Nat.zero_le _) (Nat.zero_le _) ?_
                exact qF0 (by rw [hrd, lp_F (by omega) (op_pI.mpr hop) ok9]) hFF9 hN9
    exact lp _ 0 ((sub t).2.1) ((sub t).2.2) σ1 (Nat.zero_le _) (ch_T ok1) hT1 hS1 hQ1.1 (by omega) hFF1 (Nat.lt_succ_self _)
  · skip
    have hFF1 : fr_K σ σ1 := fr_K.tr fr_K.rf hF1
    refine ev_if_ne (tgt := 10) dX4_readSum_5 (by decide) (fun c => absurd (by decide) c) (fun _ => ?_)
    refine ev_iconst (v := 0) dX4_readSum_8 (by decide) ?_
    refine ev_retz dX4_readSum_9 rfl (Or.inl rfl) (Nat.zero_le _) (Nat.zero_le _) ?_
    exact qF0 (ch_F ok1) hFF1 hN1
set_option maxHeartbeats 400000 in
set_option maxRecDepth 100000 in
theorem pc_and (G : am_G) (b : Nat → Int32) (n : Nat) (d : Nat) (hd : 6 ≤ d) (o : Nat) (ho : o ≤ 5) (sub : lx_T → lx_F) (hs : pc_C G b n mX4_readNot d o sub) (m : Nat) (hH : rd_H n m sub) : pc_C G b n mX4_readAnd (d + 1) o (rd_ch op_a sub (lx_nx b n)) := by
  intro D σ l t hB hT hS hK hl
  have h160 := hB.2.2.1
  have k1 := hK.1.1
  have k2 := hK.1.2.1
  have k3 := hK.1.2.2.1
  have k4 := hK.1.2.2.2
  refine am_of moX4_readAnd (Nat.le_of_ble_eq_true rfl) ?_
  show am_Ev G mX4_readAnd (am_R (D + (d + 1)) 0 0) 0 0 (am_qF l ((rd_ch op_a sub (lx_nx b n)) t) σ) 0 [(0, .ref 38), (1, .int (nI o))] [] σ 0 0
  refine ev_aload_n dX4_readAnd_0 rfl rfl ?_
  refine ev_iload_n dX4_readAnd_1 rfl rfl ?_
  refine ev_callV (as := [.int (nI o)]) (st := []) dX4_readAnd_2 mfX4_readNot lk_X4_73 (hB.1.1) (by decide) rfl (hs D σ l t hB hT hS hK (by omega)) rfl rfl (Nat.le_of_ble_eq_true rfl) (am_hR (by omega) (by decide)) ⟨Nat.le_refl _, Nat.le_refl _⟩ ?_
  rintro _ σ1 (⟨ok1, rfl, hF1, hT1, hS1⟩ | ⟨ok1, rfl, hF1, hN1⟩)
  · skip
    have hFF1 : fr_K σ σ1 := fr_K.tr fr_K.rf hF1
    have hQ1 := hH t hK
    have q1 := hQ1.2.1
    have qk1 := (hQ1.2.2 ok1).1
    have qn1 := hQ1.1.1.1
    have qm1 := hQ1.1.1.2.1
    have ql1 := len_a (l := l) (m := (sub t).2.1)
    refine ev_if_ne (tgt := 10) dX4_readAnd_5 (by decide) (fun _ => ?_) (fun c => absurd c (by decide))
    refine ev_iconst (v := 0) dX4_readAnd_10 (by decide) ?_
    refine ev_istore_n (lv' := [(0, .ref 38), (1, .int (nI o)), (2, .int 0)]) dX4_readAnd_11 rfl (by decide) rfl ?_
    have lp : ∀ (f : Nat) (i : Nat) (lc : List Int32) (t1 : lx_T) (σ1 : am_M), (i ≤ 160) → (rd_ch op_a sub (lx_nx b n) t = rd_lp op_a sub (lx_nx b n) (160 - i) lc t1) → (tk_X σ1 t1) → (st_X σ1 (l ++ lc)) → (lx_K n t1) → ((l ++ lc).length ≤ t1.2.1) → (fr_K σ σ1) → 160 - i < f → am_Ev G mX4_readAnd (am_R (D + (d + 1)) 0 0) 0 0 (am_qF l ((rd_ch op_a sub (lx_nx b n)) t) σ) 12 [(0, .ref 38), (1, .int (nI o)), (2, .int (nI i))] [] σ1 0 0 := by
      intro f
      induction f with
      | zero => intro i lc t1 σ1 hi hrd hT1 hS1 hK1 hle hF1 hf; exact absurd hf (Nat.not_lt_zero _)
      | succ f ih =>
        intro i lc t1 σ1 hi hrd hT1 hS1 hK1 hle hF1 hf
        have k1 := hK1.1.1
        have k2 := hK1.1.2.1
        have k3 := hK1.1.2.2.1
        have k4 := hK1.1.2.2.2
        refine ev_iload_n dX4_readAnd_12 rfl rfl ?_
        refine ev_sipush (v := 160) dX4_readAnd_13 (by decide) ?_
        refine ev_icmp_ge (tgt := 54) dX4_readAnd_16 (by decide) (fun c2 => ?_) (fun c2 => ?_)
        · skip
          have c2n : 160 ≤ i := (nI_leI (a := 160) (b := i) (by omega) (by omega)).mp c2
          refine ev_iconst (v := 1) dX4_readAnd_54 (by decide) ?_
          refine ev_retz dX4_readAnd_55 rfl (Or.inr rfl) (Nat.zero_le _) (Nat.zero_le _) ?_
          refine qF1 (by rw [hrd, lp_Z (by omega)]) hF1 hT1 ?_
          have zz := hS1
          simpa only [List.append_assoc, List.append_nil] using zz
        · skip
          have c2n : ¬ 160 ≤ i := fun zz => c2 ((nI_leI (a := 160) (b := i) (by omega) (by omega)).mpr zz)
          refine ev_aload_n dX4_readAnd_19 rfl rfl ?_
          refine ev_getI (v := t1.1) dX4_readAnd_20 fl_X4_47 ((hB.K hF1).1.1) hT1.1 ?_
          refine ev_bipush (v := (-8)) dX4_readAnd_23 (by decide) ?_
          refine ev_icmp_ne (tgt := 54) dX4_readAnd_25 (by decide) (fun c3 => ?_) (fun c3 => ?_)
          · skip
            refine ev_iconst (v := 1) dX4_readAnd_54 (by decide) ?_
            refine ev_retz dX4_readAnd_55 rfl (Or.inr rfl) (Nat.zero_le _) (Nat.zero_le _) ?_
            refine qF1 (by rw [hrd, lp_N (lx_Fa op_aI c3)]) hF1 hT1 ?_
            have zz := hS1
            simpa only [List.append_assoc, List.append_nil] using zz
          · skip
            have hop : t1.1 = -8 := c3
            have kk4 : t1.2.1 < t1.2.2 := k4 (fun e => by rw [e] at hop; revert hop; decide)
            refine ev_aload_n dX4_readAnd_28 rfl rfl ?_
            refine ev_callV (as := []) (st := []) dX4_readAnd_29 mfX4_next lk_X4_40 ((hB.K hF1).1.1) (by decide) rfl (c_X4_next G D b n σ1 (hB.K hF1) t1.2.2 hK1.1.2.1 hT1.2.2) rfl rfl (Nat.le_of_ble_eq_true rfl) (am_hR (by omega) (by decide)) ⟨Nat.le_refl _, Nat.le_refl _⟩ ?_
            rintro _ σ4 ⟨rfl, hF4, hT4⟩
            have hFF4 : fr_K σ σ4 := fr_K.tr hF1 hF4.K
            have hK4 := nx_Y (b := b) (n := n) _ hK1.1.2.1
            have p4 := hK4.2
            have m4 := hK4.1.1.1
            have ml4 := hK4.1.1.2.1
            refine ev_aload_n dX4_readAnd_32 rfl rfl ?_
            refine ev_iload_n dX4_readAnd_33 rfl rfl ?_
            refine ev_callV (as := [.int (nI o)]) (st := []) dX4_readAnd_34 mfX4_readNot lk_X4_73 ((hB.K hFF4).1.1) (by decide) rfl (hs D σ4 (l ++ lc) (lx_nx b n t1.2.2) (hB.K hFF4) hT4 (hS1.J hF4) hK4.1 (by omega)) rfl rfl (Nat.le_of_ble_eq_true rfl) (am_hR (by omega) (by decide)) ⟨Nat.le_refl _, Nat.le_refl _⟩ ?_
            rintro _ σ5 (⟨ok5, rfl, hF5, hT5, hS5⟩ | ⟨ok5, rfl, hF5, hN5⟩)
            · skip
              have hFF5 : fr_K σ σ5 := fr_K.tr hFF4 hF5
              have hQ5 := hH (lx_nx b n t1.2.2) hK4.1
              have q5 := hQ5.2.1
              have qk5 := (hQ5.2.2 ok5).1
              have qn5 := hQ5.1.1.1
              have qm5 := hQ5.1.1.2.1
              have ql5 := len_a (l := (l ++ lc)) (m := (sub (lx_nx b n t1.2.2)).2.1)
              refine ev_if_ne (tgt := 42) dX4_readAnd_37 (by decide) (fun _ => ?_) (fun c => absurd c (by decide))
              refine ev_aload_n dX4_readAnd_42 rfl rfl ?_
              refine ev_bipush (v := (-8)) dX4_readAnd_43 (by decide) ?_
              refine ev_callV (as := [.int (-8)]) (st := []) dX4_readAnd_45 mfX4_step lk_X4_70 ((hB.K hFF5).1.1) (by decide) rfl (c_X4_step G D b n σ5 (hB.K hFF5) ((l ++ lc) ++ (sub (lx_nx b n t1.2.2)).2.1) (by omega) hS5.1 (-8)) rfl rfl (Nat.le_of_ble_eq_true rfl) (am_hR (by omega) (by decide)) ⟨Nat.le_refl _, Nat.le_refl _⟩ ?_
              rintro _ _ ⟨rfl, rfl⟩
              have hFF6 : fr_K σ (am_sI (am_sI σ5 40 ((l ++ lc) ++ (sub (lx_nx b n t1.2.2)).2.1).length (-8)) 38 6 (nI (((l ++ lc) ++ (sub (lx_nx b n t1.2.2)).2.1).length + 1))) := fr_K.wr (by omega) (fr_K.wr (by omega) hFF5)
              have le6 := len_1 (l := ((l ++ lc) ++ (sub (lx_nx b n t1.2.2)).2.1)) (c := rd_cd t1.1)
              refine ev_iinc (lv' := [(0, .ref 38), (1, .int (nI o)), (2, .int (nI (i + 1)))]) (v := nI (i + 1)) dX4_readAnd_48 rfl (nI_1 _) (by decide) rfl ?_
              refine ev_goto (tgt := 12) dX4_readAnd_51 (by decide) ?_
              exact ih (i + 1) (lc ++ (sub (lx_nx b n t1.2.2)).2.1 ++ [rd_cd t1.1]) ((sub (lx_nx b n t1.2.2)).2.2) (am_sI (am_sI σ5 40 ((l ++ lc) ++ (sub (lx_nx b n t1.2.2)).2.1).length (-8)) 38 6 (nI (((l ++ lc) ++ (sub (lx_nx b n t1.2.2)).2.1).length + 1))) (by omega) (by rw [hrd, lp_S (by omega) (op_aI.mpr hop) ok5]) (tk_X.st hT5) (by have zz := (st_X.push (c := rd_cd t1.1) (x := (-8)) hS5 (show cx_st (rd_cd t1.1) = (-8) from (by rw [hop]; decide))); simpa only [List.append_assoc] using zz) hQ5.1 (by simp only [List.length_append, List.length_singleton] at *; omega) hFF6 (by omega)
            · skip
              have hFF5 : fr_K σ σ5 := fr_K.tr hFF4 hF5
              refine ev_if_ne (tgt := 42) dX4_readAnd_37 (by decide) (fun c => absurd (by decide) c) (fun _ => ?_)
              refine ev_iconst (v := 0) dX4_readAnd_40 (by decide) ?_
              refine ev_retz dX4_readAnd_41 rfl (Or.inl rfl) (Nat.zero_le _) (Nat.zero_le _) ?_
              exact qF0 (by rw [hrd, lp_F (by omega) (op_aI.mpr hop) ok5]) hFF5 hN5
    exact lp _ 0 ((sub t).2.1) ((sub t).2.2) σ1 (Nat.zero_le _) (ch_T ok1) hT1 hS1 hQ1.1 (by omega) hFF1 (Nat.lt_succ_self _)
  · skip
    have hFF1 : fr_K σ σ1 := fr_K.tr fr_K.rf hF1
    refine ev_if_ne (tgt := 10) dX4_readAnd_5 (by decide) (fun c => absurd (by decide) c) (fun _ => ?_)
    refine ev_iconst (v := 0) dX4_readAnd_8 (by decide) ?_
    refine ev_retz dX4_readAnd_9 rfl (Or.inl rfl) (Nat.zero_le _) (Nat.zero_le _) ?_
    exact qF0 (ch_F ok1) hFF1 hN1
set_option maxHeartbeats 400000 in
set_option maxRecDepth 100000 in
theorem pc_E (G : am_G) (b : Nat → Int32) (n : Nat) (d : Nat) (hd : 6 ≤ d) (o : Nat) (ho : o ≤ 5) (sub : lx_T → lx_F) (hs : pc_C G b n mX4_readAnd d o sub) (m : Nat) (hH : rd_H n m sub) : pc_C G b n mX4_readE (d + 1) o (rd_ch op_o sub (lx_nx b n)) := by
  intro D σ l t hB hT hS hK hl
  have h160 := hB.2.2.1
  have k1 := hK.1.1
  have k2 := hK.1.2.1
  have k3 := hK.1.2.2.1
  have k4 := hK.1.2.2.2
  refine am_of moX4_readE (Nat.le_of_ble_eq_true rfl) ?_
  show am_Ev G mX4_readE (am_R (D + (d + 1)) 0 0) 0 0 (am_qF l ((rd_ch op_o sub (lx_nx b n)) t) σ) 0 [(0, .ref 38), (1, .int (nI o))] [] σ 0 0
  refine ev_aload_n dX4_readE_0 rfl rfl ?_
  refine ev_iload_n dX4_readE_1 rfl rfl ?_
  refine ev_callV (as := [.int (nI o)]) (st := []) dX4_readE_2 mfX4_readAnd lk_X4_67 (hB.1.1) (by decide) rfl (hs D σ l t hB hT hS hK (by omega)) rfl rfl (Nat.le_of_ble_eq_true rfl) (am_hR (by omega) (by decide)) ⟨Nat.le_refl _, Nat.le_refl _⟩ ?_
  rintro _ σ1 (⟨ok1, rfl, hF1, hT1, hS1⟩ | ⟨ok1, rfl, hF1, hN1⟩)
  · skip
    have hFF1 : fr_K σ σ1 := fr_K.tr fr_K.rf hF1
    have hQ1 := hH t hK
    have q1 := hQ1.2.1
    have qk1 := (hQ1.2.2 ok1).1
    have qn1 := hQ1.1.1.1
    have qm1 := hQ1.1.1.2.1
    have ql1 := len_a (l := l) (m := (sub t).2.1)
    refine ev_if_ne (tgt := 10) dX4_readE_5 (by decide) (fun _ => ?_) (fun c => absurd c (by decide))
    refine ev_iconst (v := 0) dX4_readE_10 (by decide) ?_
    refine ev_istore_n (lv' := [(0, .ref 38), (1, .int (nI o)), (2, .int 0)]) dX4_readE_11 rfl (by decide) rfl ?_
    have lp : ∀ (f : Nat) (i : Nat) (lc : List Int32) (t1 : lx_T) (σ1 : am_M), (i ≤ 160) → (rd_ch op_o sub (lx_nx b n) t = rd_lp op_o sub (lx_nx b n) (160 - i) lc t1) → (tk_X σ1 t1) → (st_X σ1 (l ++ lc)) → (lx_K n t1) → ((l ++ lc).length ≤ t1.2.1) → (fr_K σ σ1) → 160 - i < f → am_Ev G mX4_readE (am_R (D + (d + 1)) 0 0) 0 0 (am_qF l ((rd_ch op_o sub (lx_nx b n)) t) σ) 12 [(0, .ref 38), (1, .int (nI o)), (2, .int (nI i))] [] σ1 0 0 := by
      intro f
      induction f with
      | zero => intro i lc t1 σ1 hi hrd hT1 hS1 hK1 hle hF1 hf; exact absurd hf (Nat.not_lt_zero _)
      | succ f ih =>
        intro i lc t1 σ1 hi hrd hT1 hS1 hK1 hle hF1 hf
        have k1 := hK1.1.1
        have k2 := hK1.1.2.1
        have k3 := hK1.1.2.2.1
        have k4 := hK1.1.2.2.2
        refine ev_iload_n dX4_readE_12 rfl rfl ?_
        refine ev_sipush (v := 160) dX4_readE_13 (by decide) ?_
        refine ev_icmp_ge (tgt := 54) dX4_readE_16 (by decide) (fun c2 => ?_) (fun c2 => ?_)
        · skip
          have c2n : 160 ≤ i := (nI_leI (a := 160) (b := i) (by omega) (by omega)).mp c2
          refine ev_iconst (v := 1) dX4_readE_54 (by decide) ?_
          refine ev_retz dX4_readE_55 rfl (Or.inr rfl) (Nat.zero_le _) (Nat.zero_le _) ?_
          refine qF1 (by rw [hrd, lp_Z (by omega)]) hF1 hT1 ?_
          have zz := hS1
          simpa only [List.append_assoc, List.append_nil] using zz
        · skip
          have c2n : ¬ 160 ≤ i := fun zz => c2 ((nI_leI (a := 160) (b := i) (by omega) (by omega)).mpr zz)
          refine ev_aload_n dX4_readE_19 rfl rfl ?_
          refine ev_getI (v := t1.1) dX4_readE_20 fl_X4_47 ((hB.K hF1).1.1) hT1.1 ?_
          refine ev_bipush (v := (-7)) dX4_readE_23 (by decide) ?_
          refine ev_icmp_ne (tgt := 54) dX4_readE_25 (by decide) (fun c3 => ?_) (fun c3 => ?_)
          · skip
            refine ev_iconst (v := 1) dX4_readE_54 (by decide) ?_
            refine ev_retz dX4_readE_55 rfl (Or.inr rfl) (Nat.zero_le _) (Nat.zero_le _) ?_
            refine qF1 (by rw [hrd, lp_N (lx_Fa op_oI c3)]) hF1 hT1 ?_
            have zz := hS1
            simpa only [List.append_assoc, List.append_nil] using zz
          · skip
            have hop : t1.1 = -7 := c3
            have kk4 : t1.2.1 < t1.2.2 := k4 (fun e => by rw [e] at hop; revert hop; decide)
            refine ev_aload_n dX4_readE_28 rfl rfl ?_
            refine ev_callV (as := []) (st := []) dX4_readE_29 mfX4_next lk_X4_40 ((hB.K hF1).1.1) (by decide) rfl (c_X4_next G D b n σ1 (hB.K hF1) t1.2.2 hK1.1.2.1 hT1.2.2) rfl rfl (Nat.le_of_ble_eq_true rfl) (am_hR (by omega) (by decide)) ⟨Nat.le_refl _, Nat.le_refl _⟩ ?_
            rintro _ σ4 ⟨rfl, hF4, hT4⟩
            have hFF4 : fr_K σ σ4 := fr_K.tr hF1 hF4.K
            have hK4 := nx_Y (b := b) (n := n) _ hK1.1.2.1
            have p4 := hK4.2
            have m4 := hK4.1.1.1
            have ml4 := hK4.1.1.2.1
            refine ev_aload_n dX4_readE_32 rfl rfl ?_
            refine ev_iload_n dX4_readE_33 rfl rfl ?_
            refine ev_callV (as := [.int (nI o)]) (st := []) dX4_readE_34 mfX4_readAnd lk_X4_67 ((hB.K hFF4).1.1) (by decide) rfl (hs D σ4 (l ++ lc) (lx_nx b n t1.2.2) (hB.K hFF4) hT4 (hS1.J hF4) hK4.1 (by omega)) rfl rfl (Nat.le_of_ble_eq_true rfl) (am_hR (by omega) (by decide)) ⟨Nat.le_refl _, Nat.le_refl _⟩ ?_
            rintro _ σ5 (⟨ok5, rfl, hF5, hT5, hS5⟩ | ⟨ok5, rfl, hF5, hN5⟩)
            · skip
              have hFF5 : fr_K σ σ5 := fr_K.tr hFF4 hF5
              have hQ5 := hH (lx_nx b n t1.2.2) hK4.1
              have q5 := hQ5.2.1
              have qk5 := (hQ5.2.2 ok5).1
              have qn5 := hQ5.1.1.1
              have qm5 := hQ5.1.1.2.1
              have ql5 := len_a (l := (l ++ lc)) (m := (sub (lx_nx b n t1.2.2)).2.1)
              refine ev_if_ne (tgt := 42) dX4_readE_37 (by decide) (fun _ => ?_) (fun c => absurd c (by decide))
              refine ev_aload_n dX4_readE_42 rfl rfl ?_
              refine ev_bipush (v := (-7)) dX4_readE_43 (by decide) ?_
              refine ev_callV (as := [.int (-7)]) (st := []) dX4_readE_45 mfX4_step lk_X4_70 ((hB.K hFF5).1.1) (by decide) rfl (c_X4_step G D b n σ5 (hB.K hFF5) ((l ++ lc) ++ (sub (lx_nx b n t1.2.2)).2.1) (by omega) hS5.1 (-7)) rfl rfl (Nat.le_of_ble_eq_true rfl) (am_hR (by omega) (by decide)) ⟨Nat.le_refl _, Nat.le_refl _⟩ ?_
              rintro _ _ ⟨rfl, rfl⟩
              have hFF6 : fr_K σ (am_sI (am_sI σ5 40 ((l ++ lc) ++ (sub (lx_nx b n t1.2.2)).2.1).length (-7)) 38 6 (nI (((l ++ lc) ++ (sub (lx_nx b n t1.2.2)).2.1).length + 1))) := fr_K.wr (by omega) (fr_K.wr (by omega) hFF5)
              have le6 := len_1 (l := ((l ++ lc) ++ (sub (lx_nx b n t1.2.2)).2.1)) (c := rd_cd t1.1)
              refine ev_iinc (lv' := [(0, .ref 38), (1, .int (nI o)), (2, .int (nI (i + 1)))]) (v := nI (i + 1)) dX4_readE_48 rfl (nI_1 _) (by decide) rfl ?_
              refine ev_goto (tgt := 12) dX4_readE_51 (by decide) ?_
              exact ih (i + 1) (lc ++ (sub (lx_nx b n t1.2.2)).2.1 ++ [rd_cd t1.1]) ((sub (lx_nx b n t1.2.2)).2.2) (am_sI (am_sI σ5 40 ((l ++ lc) ++ (sub (lx_nx b n t1.2.2)).2.1).length (-7)) 38 6 (nI (((l ++ lc) ++ (sub (lx_nx b n t1.2.2)).2.1).length + 1))) (by omega) (by rw [hrd, lp_S (by omega) (op_oI.mpr hop) ok5]) (tk_X.st hT5) (by have zz := (st_X.push (c := rd_cd t1.1) (x := (-7)) hS5 (show cx_st (rd_cd t1.1) = (-7) from (by rw [hop]; decide))); simpa only [List.append_assoc] using zz) hQ5.1 (by simp only [List.length_append, List.length_singleton] at *; omega) hFF6 (by omega)
            · skip
              have hFF5 : fr_K σ σ5 := fr_K.tr hFF4 hF5
              refine ev_if_ne (tgt := 42) dX4_readE_37 (by decide) (fun c => absurd (by decide) c) (fun _ => ?_)
              refine ev_iconst (v := 0) dX4_readE_40 (by decide) ?_
              refine ev_retz dX4_readE_41 rfl (Or.inl rfl) (Nat.zero_le _) (Nat.zero_le _) ?_
              exact qF0 (by rw [hrd, lp_F (by omega) (op_oI.mpr hop) ok5]) hFF5 hN5
    exact lp _ 0 ((sub t).2.1) ((sub t).2.2) σ1 (Nat.zero_le _) (ch_T ok1) hT1 hS1 hQ1.1 (by omega) hFF1 (Nat.lt_succ_self _)
  · skip
    have hFF1 : fr_K σ σ1 := fr_K.tr fr_K.rf hF1
    refine ev_if_ne (tgt := 10) dX4_readE_5 (by decide) (fun c => absurd (by decide) c) (fun _ => ?_)
    refine ev_iconst (v := 0) dX4_readE_8 (by decide) ?_
    refine ev_retz dX4_readE_9 rfl (Or.inl rfl) (Nat.zero_le _) (Nat.zero_le _) ?_
    exact qF0 (ch_F ok1) hFF1 hN1
set_option maxHeartbeats 400000 in
set_option maxRecDepth 100000 in
theorem pc_not (G : am_G) (b : Nat → Int32) (n : Nat) (d : Nat) (hd : 6 ≤ d) (o : Nat) (ho : o ≤ 5) (k0 : Bool) (hk0 : k0 = decide (o < 5)) (sN sum : lx_T → lx_F) (hs : k0 = true → pc_C G b n mX4_readNot d (o + 1) sN) (hs2 : pc_C G b n mX4_readSum d o sum) (m : Nat) (hH : k0 = true → rd_H n m sN) (hH2 : rd_H n m sum) : pc_C G b n mX4_readNot (d + 1) o (rd_not k0 sN sum (lx_nx b n)) := by
  intro D σ l t hB hT hS hK hl
  have h160 := hB.2.2.1
  have k1 := hK.1.1
  have k2 := hK.1.2.1
  have k3 := hK.1.2.2.1
  have k4 := hK.1.2.2.2
  refine am_of moX4_readNot (Nat.le_of_ble_eq_true rfl) ?_
  show am_Ev G mX4_readNot (am_R (D + (d + 1)) 0 0) 0 0 (am_qF l ((rd_not k0 sN sum (lx_nx b n)) t) σ) 0 [(0, .ref 38), (1, .int (nI o))] [] σ 0 0
  refine ev_aload_n dX4_readNot_0 rfl rfl ?_
  refine ev_getI (v := t.1) dX4_readNot_1 fl_X4_47 (hB.1.1) hT.1 ?_
  refine ev_bipush (v := (-9)) dX4_readNot_4 (by decide) ?_
  refine ev_icmp_ne (tgt := 40) dX4_readNot_6 (by decide) (fun c1 => ?_) (fun c1 => ?_)
  · skip
    refine ev_aload_n dX4_readNot_40 rfl rfl ?_
    refine ev_iload_n dX4_readNot_41 rfl rfl ?_
    refine ev_callV (as := [.int (nI o)]) (st := []) dX4_readNot_42 mfX4_readSum lk_X4_76 (hB.1.1) (by decide) rfl (hs2 D σ l t hB hT hS hK (by omega)) rfl rfl (Nat.le_of_ble_eq_true rfl) (am_hR (by omega) (by decide)) ⟨Nat.le_refl _, Nat.le_refl _⟩ ?_
    rintro _ σ2 (⟨ok2, rfl, hF2, hT2, hS2⟩ | ⟨ok2, rfl, hF2, hN2⟩)
    · skip
      have hFF2 : fr_K σ σ2 := fr_K.tr fr_K.rf hF2
      have hQ2 := hH2 t hK
      have q2 := hQ2.2.1
      have qk2 := (hQ2.2.2 ok2).1
      have qn2 := hQ2.1.1.1
      have qm2 := hQ2.1.1.2.1
      have ql2 := len_a (l := l) (m := (sum t).2.1)
      refine ev_if_ne (tgt := 50) dX4_readNot_45 (by decide) (fun _ => ?_) (fun c => absurd c (by decide))
      refine ev_aload_n dX4_readNot_50 rfl rfl ?_
      refine ev_getI (v := (sum t).2.2.1) dX4_readNot_51 fl_X4_47 ((hB.K hFF2).1.1) hT2.1 ?_
      refine ev_istore_n (lv' := [(0, .ref 38), (1, .int (nI o)), (2, .int ((sum t).2.2.1))]) dX4_readNot_54 rfl (by decide) rfl ?_
      refine ev_iload_n dX4_readNot_55 rfl rfl ?_
      refine ev_bipush (v := (-10)) dX4_readNot_56 (by decide) ?_
      refine ev_icmp_eq (tgt := 69) dX4_readNot_58 (by decide) (fun c3 => ?_) (fun c3 => ?_)
      · skip
        have hop : (sum t).2.2.1 = -10 ∨ (sum t).2.2.1 = -11 := Or.inl c3
        have kk4 : (sum t).2.2.2.1 < (sum t).2.2.2.2 := (hQ2.1).1.2.2.2 (fun e => by rw [e] at hop; revert hop; decide)
        refine ev_aload_n dX4_readNot_69 rfl rfl ?_
        refine ev_callV (as := []) (st := []) dX4_readNot_70 mfX4_next lk_X4_40 ((hB.K hFF2).1.1) (by decide) rfl (c_X4_next G D b n σ2 (hB.K hFF2) (sum t).2.2.2.2 hQ2.1.1.2.1 hT2.2.2) rfl rfl (Nat.le_of_ble_eq_true rfl) (am_hR (by omega) (by decide)) ⟨Nat.le_refl _, Nat.le_refl _⟩ ?_
        rintro _ σ4 ⟨rfl, hF4, hT4⟩
        have hFF4 : fr_K σ σ4 := fr_K.tr hFF2 hF4.K
        have hK4 := nx_Y (b := b) (n := n) _ hQ2.1.1.2.1
        have p4 := hK4.2
        have m4 := hK4.1.1.1
        have ml4 := hK4.1.1.2.1
        refine ev_aload_n dX4_readNot_73 rfl rfl ?_
        refine ev_iload_n dX4_readNot_74 rfl rfl ?_
        refine ev_callV (as := [.int (nI o)]) (st := []) dX4_readNot_75 mfX4_readSum lk_X4_76 ((hB.K hFF4).1.1) (by decide) rfl (hs2 D σ4 (l ++ (sum t).2.1) (lx_nx b n (sum t).2.2.2.2) (hB.K hFF4) hT4 (hS2.J hF4) hK4.1 (by omega)) rfl rfl (Nat.le_of_ble_eq_true rfl) (am_hR (by omega) (by decide)) ⟨Nat.le_refl _, Nat.le_refl _⟩ ?_
        rintro _ σ5 (⟨ok5, rfl, hF5, hT5, hS5⟩ | ⟨ok5, rfl, hF5, hN5⟩)
        · skip
          have hFF5 : fr_K σ σ5 := fr_K.tr hFF4 hF5
          have hQ5 := hH2 (lx_nx b n (sum t).2.2.2.2) hK4.1
          have q5 := hQ5.2.1
          have qk5 := (hQ5.2.2 ok5).1
          have qn5 := hQ5.1.1.1
          have qm5 := hQ5.1.1.2.1
          have ql5 := len_a (l := (l ++ (sum t).2.1)) (m := (sum (lx_nx b n (sum t).2.2.2.2)).2.1)
          refine ev_if_ne (tgt := 83) dX4_readNot_78 (by decide) (fun _ => ?_) (fun c => absurd c (by decide))
          refine ev_aload_n dX4_readNot_83 rfl rfl ?_
          refine ev_iload_n dX4_readNot_84 rfl rfl ?_
          refine ev_callV (as := [.int ((sum t).2.2.1)]) (st := []) dX4_readNot_85 mfX4_step lk_X4_70 ((hB.K hFF5).1.1) (by decide) rfl (c_X4_step G D b n σ5 (hB.K hFF5) ((l ++ (sum t).2.1) ++ (sum (lx_nx b n (sum t).2.2.2.2)).2.1) (by omega) hS5.1 ((sum t).2.2.1)) rfl rfl (Nat.le_of_ble_eq_true rfl) (am_hR (by omega) (by decide)) ⟨Nat.le_refl _, Nat.le_refl _⟩ ?_
          rintro _ _ ⟨rfl, rfl⟩
          have hFF6 : fr_K σ (am_sI (am_sI σ5 40 ((l ++ (sum t).2.1) ++ (sum (lx_nx b n (sum t).2.2.2.2)).2.1).length ((sum t).2.2.1)) 38 6 (nI (((l ++ (sum t).2.1) ++ (sum (lx_nx b n (sum t).2.2.2.2)).2.1).length + 1))) := fr_K.wr (by omega) (fr_K.wr (by omega) hFF5)
          have le6 := len_1 (l := ((l ++ (sum t).2.1) ++ (sum (lx_nx b n (sum t).2.2.2.2)).2.1)) (c := rd_cd (sum t).2.2.1)
          refine ev_iconst (v := 1) dX4_readNot_88 (by decide) ?_
          refine ev_retz dX4_readNot_89 rfl (Or.inr rfl) (Nat.zero_le _) (Nat.zero_le _) ?_
          refine qF1 (not_f c1 ok2 hop ok5) hFF6 (tk_X.st hT5) ?_
          have zz := (st_X.push (c := rd_cd (sum t).2.2.1) (x := (sum t).2.2.1) hS5 (show cx_st (rd_cd (sum t).2.2.1) = (sum t).2.2.1 from (cx_op (by rcases hop with z | z <;> rw [z] <;> decide))))
          simpa only [List.append_assoc, List.append_nil] using zz
        · skip
          have hFF5 : fr_K σ σ5 := fr_K.tr hFF4 hF5
          refine ev_if_ne (tgt := 83) dX4_readNot_78 (by decide) (fun c => absurd (by decide) c) (fun _ => ?_)
          refine ev_iconst (v := 0) dX4_readNot_81 (by decide) ?_
          refine ev_retz dX4_readNot_82 rfl (Or.inl rfl) (Nat.zero_le _) (Nat.zero_le _) ?_
          exact qF0 (not_g c1 ok2 hop ok5) hFF5 hN5
      · skip
        refine ev_iload_n dX4_readNot_61 rfl rfl ?_
        refine ev_bipush (v := (-11)) dX4_readNot_62 (by decide) ?_
        refine ev_icmp_eq (tgt := 69) dX4_readNot_64 (by decide) (fun c7 => ?_) (fun c7 => ?_)
        · skip
          have hop : (sum t).2.2.1 = -10 ∨ (sum t).2.2.1 = -11 := Or.inr c7
          have kk4 : (sum t).2.2.2.1 < (sum t).2.2.2.2 := (hQ2.1).1.2.2.2 (fun e => by rw [e] at hop; revert hop; decide)
          refine ev_aload_n dX4_readNot_69 rfl rfl ?_
          refine ev_callV (as := []) (st := []) dX4_readNot_70 mfX4_next lk_X4_40 ((hB.K hFF2).1.1) (by decide) rfl (c_X4_next G D b n σ2 (hB.K hFF2) (sum t).2.2.2.2 hQ2.1.1.2.1 hT2.2.2) rfl rfl (Nat.le_of_ble_eq_true rfl) (am_hR (by omega) (by decide)) ⟨Nat.le_refl _, Nat.le_refl _⟩ ?_
          rintro _ σ8 ⟨rfl, hF8, hT8⟩
          have hFF8 : fr_K σ σ8 := fr_K.tr hFF2 hF8.K
          have hK8 := nx_Y (b := b) (n := n) _ hQ2.1.1.2.1
          have p8 := hK8.2
          have m8 := hK8.1.1.1
          have ml8 := hK8.1.1.2.1
          refine ev_aload_n dX4_readNot_73 rfl rfl ?_
          refine ev_iload_n dX4_readNot_74 rfl rfl ?_
          refine ev_callV (as := [.int (nI o)]) (st := []) dX4_readNot_75 mfX4_readSum lk_X4_76 ((hB.K hFF8).1.1) (by decide) rfl (hs2 D σ8 (l ++ (sum t).2.1) (lx_nx b n (sum t).2.2.2.2) (hB.K hFF8) hT8 (hS2.J hF8) hK8.1 (by omega)) rfl rfl (Nat.le_of_ble_eq_true rfl) (am_hR (by omega) (by decide)) ⟨Nat.le_refl _, Nat.le_refl _⟩ ?_
          rintro _ σ9 (⟨ok9, rfl, hF9, hT9, hS9⟩ | ⟨ok9, rfl, hF9, hN9⟩)
          · skip
            have hFF9 : fr_K σ σ9 := fr_K.tr hFF8 hF9
            have hQ9 := hH2 (lx_nx b n (sum t).2.2.2.2) hK8.1
            have q9 := hQ9.2.1
            have qk9 := (hQ9.2.2 ok9).1
            have qn9 := hQ9.1.1.1
            have qm9 := hQ9.1.1.2.1
            have ql9 := len_a (l := (l ++ (sum t).2.1)) (m := (sum (lx_nx b n (sum t).2.2.2.2)).2.1)
            refine ev_if_ne (tgt := 83) dX4_readNot_78 (by decide) (fun _ => ?_) (fun c => absurd c (by decide))
            refine ev_aload_n dX4_readNot_83 rfl rfl ?_
            refine ev_iload_n dX4_readNot_84 rfl rfl ?_
            refine ev_callV (as := [.int ((sum t).2.2.1)]) (st := []) dX4_readNot_85 mfX4_step lk_X4_70 ((hB.K hFF9).1.1) (by decide) rfl (c_X4_step G D b n σ9 (hB.K hFF9) ((l ++ (sum t).2.1) ++ (sum (lx_nx b n (sum t).2.2.2.2)).2.1) (by omega) hS9.1 ((sum t).2.2.1)) rfl rfl (Nat.le_of_ble_eq_true rfl) (am_hR (by omega) (by decide)) ⟨Nat.le_refl _, Nat.le_refl _⟩ ?_
            rintro _ _ ⟨rfl, rfl⟩
            have hFF10 : fr_K σ (am_sI (am_sI σ9 40 ((l ++ (sum t).2.1) ++ (sum (lx_nx b n (sum t).2.2.2.2)).2.1).length ((sum t).2.2.1)) 38 6 (nI (((l ++ (sum t).2.1) ++ (sum (lx_nx b n (sum t).2.2.2.2)).2.1).length + 1))) := fr_K.wr (by omega) (fr_K.wr (by omega) hFF9)
            have le10 := len_1 (l := ((l ++ (sum t).2.1) ++ (sum (lx_nx b n (sum t).2.2.2.2)).2.1)) (c := rd_cd (sum t).2.2.1)
            refine ev_iconst (v := 1) dX4_readNot_88 (by decide) ?_
            refine ev_retz dX4_readNot_89 rfl (Or.inr rfl) (Nat.zero_le _) (Nat.zero_le _) ?_
            refine qF1 (not_f c1 ok2 hop ok9) hFF10 (tk_X.st hT9) ?_
            have zz := (st_X.push (c := rd_cd (sum t).2.2.1) (x := (sum t).2.2.1) hS9 (show cx_st (rd_cd (sum t).2.2.1) = (sum t).2.2.1 from (cx_op (by rcases hop with z | z <;> rw [z] <;> decide))))
            simpa only [List.append_assoc, List.append_nil] using zz
          · skip
            have hFF9 : fr_K σ σ9 := fr_K.tr hFF8 hF9
            refine ev_if_ne (tgt := 83) dX4_readNot_78 (by decide) (fun c => absurd (by decide) c) (fun _ => ?_)
            refine ev_iconst (v := 0) dX4_readNot_81 (by decide) ?_
            refine ev_retz dX4_readNot_82 rfl (Or.inl rfl) (Nat.zero_le _) (Nat.zero_le _) ?_
            exact qF0 (not_g c1 ok2 hop ok9) hFF9 hN9
        · skip
          refine ev_iconst (v := 1) dX4_readNot_67 (by decide) ?_
          refine ev_retz dX4_readNot_68 rfl (Or.inr rfl) (Nat.zero_le _) (Nat.zero_le _) ?_
          refine qF1 (not_e c1 ok2 ⟨c3, c7⟩) hFF2 hT2 ?_
          have zz := hS2
          simpa only [List.append_assoc, List.append_nil] using zz
    · skip
      have hFF2 : fr_K σ σ2 := fr_K.tr fr_K.rf hF2
      refine ev_if_ne (tgt := 50) dX4_readNot_45 (by decide) (fun c => absurd (by decide) c) (fun _ => ?_)
      refine ev_iconst (v := 0) dX4_readNot_48 (by decide) ?_
      refine ev_retz dX4_readNot_49 rfl (Or.inl rfl) (Nat.zero_le _) (Nat.zero_le _) ?_
      exact qF0 (not_d c1 ok2) hFF2 hN2
  · skip
    have kk4 : t.2.1 < t.2.2 := k4 (fun e => by rw [e] at c1; exact absurd c1 (by decide))
    refine ev_iload_n dX4_readNot_9 rfl rfl ?_
    refine ev_iconst (v := 5) dX4_readNot_10 (by decide) ?_
    refine ev_icmp_lt (tgt := 16) dX4_readNot_11 (by decide) (fun c11 => ?_) (fun c11 => ?_)
    · skip
      have c11n : o < 5 := (nI_ltI (a := o) (b := 5) (by omega) (by omega)).mp c11
      have hkk : k0 = true := by rw [hk0]; exact decide_eq_true (by omega)
      refine ev_aload_n dX4_readNot_16 rfl rfl ?_
      refine ev_callV (as := []) (st := []) dX4_readNot_17 mfX4_next lk_X4_40 (hB.1.1) (by decide) rfl (c_X4_next G D b n σ hB t.2.2 hK.1.2.1 hT.2.2) rfl rfl (Nat.le_of_ble_eq_true rfl) (am_hR (by omega) (by decide)) ⟨Nat.le_refl _, Nat.le_refl _⟩ ?_
      rintro _ σ12 ⟨rfl, hF12, hT12⟩
      have hFF12 : fr_K σ σ12 := fr_K.tr fr_K.rf hF12.K
      have hK12 := nx_Y (b := b) (n := n) _ hK.1.2.1
      have p12 := hK12.2
      have m12 := hK12.1.1.1
      have ml12 := hK12.1.1.2.1
      refine ev_aload_n dX4_readNot_20 rfl rfl ?_
      refine ev_iload_n dX4_readNot_21 rfl rfl ?_
      refine ev_iconst (v := 1) dX4_readNot_22 (by decide) ?_
      refine ev_iadd (v := nI (o + 1)) dX4_readNot_23 (nI_1 _) ?_
      refine ev_callV (as := [.int (nI (o + 1))]) (st := []) dX4_readNot_24 mfX4_readNot lk_X4_73 ((hB.K hFF12).1.1) (by decide) rfl ((hs hkk) D σ12 l (lx_nx b n t.2.2) (hB.K hFF12) hT12 (hS.J hF12) hK12.1 (by omega)) rfl rfl (Nat.le_of_ble_eq_true rfl) (am_hR (by omega) (by decide)) ⟨Nat.le_refl _, Nat.le_refl _⟩ ?_
      rintro _ σ13 (⟨ok13, rfl, hF13, hT13, hS13⟩ | ⟨ok13, rfl, hF13, hN13⟩)
      · skip
        have hFF13 : fr_K σ σ13 := fr_K.tr hFF12 hF13
        have hQ13 := (hH hkk) (lx_nx b n t.2.2) hK12.1
        have q13 := hQ13.2.1
        have qk13 := (hQ13.2.2 ok13).1
        have qn13 := hQ13.1.1.1
        have qm13 := hQ13.1.1.2.1
        have ql13 := len_a (l := l) (m := (sN (lx_nx b n t.2.2)).2.1)
        refine ev_if_ne (tgt := 32) dX4_readNot_27 (by decide) (fun _ => ?_) (fun c => absurd c (by decide))
        refine ev_aload_n dX4_readNot_32 rfl rfl ?_
        refine ev_bipush (v := (-9)) dX4_readNot_33 (by decide) ?_
        refine ev_callV (as := [.int (-9)]) (st := []) dX4_readNot_35 mfX4_step lk_X4_70 ((hB.K hFF13).1.1) (by decide) rfl (c_X4_step G D b n σ13 (hB.K hFF13) (l ++ (sN (lx_nx b n t.2.2)).2.1) (by omega) hS13.1 (-9)) rfl rfl (Nat.le_of_ble_eq_true rfl) (am_hR (by omega) (by decide)) ⟨Nat.le_refl _, Nat.le_refl _⟩ ?_
        rintro _ _ ⟨rfl, rfl⟩
        have hFF14 : fr_K σ (am_sI (am_sI σ13 40 (l ++ (sN (lx_nx b n t.2.2)).2.1).length (-9)) 38 6 (nI ((l ++ (sN (lx_nx b n t.2.2)).2.1).length + 1))) := fr_K.wr (by omega) (fr_K.wr (by omega) hFF13)
        have le14 := len_1 (l := (l ++ (sN (lx_nx b n t.2.2)).2.1)) (c := 13)
        refine ev_iconst (v := 1) dX4_readNot_38 (by decide) ?_
        refine ev_retz dX4_readNot_39 rfl (Or.inr rfl) (Nat.zero_le _) (Nat.zero_le _) ?_
        refine qF1 (not_b c1 hkk ok13) hFF14 (tk_X.st hT13) ?_
        have zz := (st_X.push (c := 13) (x := (-9)) hS13 (show cx_st (13) = (-9) from (by decide)))
        simpa only [List.append_assoc, List.append_nil] using zz
      · skip
        have hFF13 : fr_K σ σ13 := fr_K.tr hFF12 hF13
        refine ev_if_ne (tgt := 32) dX4_readNot_27 (by decide) (fun c => absurd (by decide) c) (fun _ => ?_)
        refine ev_iconst (v := 0) dX4_readNot_30 (by decide) ?_
        refine ev_retz dX4_readNot_31 rfl (Or.inl rfl) (Nat.zero_le _) (Nat.zero_le _) ?_
        exact qF0 (not_c c1 hkk ok13) hFF13 hN13
    · skip
      have c11n : ¬ o < 5 := fun zz => c11 ((nI_ltI (a := o) (b := 5) (by omega) (by omega)).mpr zz)
      have hkk : k0 = false := by rw [hk0]; exact decide_eq_false (by omega)
      refine ev_iconst (v := 0) dX4_readNot_14 (by decide) ?_
      refine ev_retz dX4_readNot_15 rfl (Or.inl rfl) (Nat.zero_le _) (Nat.zero_le _) ?_
      exact qF0 (not_a c1 hkk) fr_K.rf hT.2.1
theorem pc_all (G : am_G) (b : Nat → Int32) (n : Nat) (hn : n ≤ 160) : ∀ k o, k + o = 5 → pc_C G b n mX4_readOne (6 * k + 7) o (rd (lx_nx b n) k).1 ∧ pc_C G b n mX4_readNot (6 * k + 10) o (rd (lx_nx b n) k).2.1 ∧ pc_C G b n mX4_readE (6 * k + 12) o (rd (lx_nx b n) k).2.2 := by
  have key : ∀ (k0 : Bool) (d o m : Nat) (s : (lx_T → lx_F) × (lx_T → lx_F) × (lx_T → lx_F)), 6 ≤ d → o ≤ 5 → k0 = decide (o < 5) → 1 ≤ m → (k0 = true → (pc_C G b n mX4_readOne d (o + 1) s.1 ∧ pc_C G b n mX4_readNot d (o + 1) s.2.1 ∧ pc_C G b n mX4_readE d (o + 1) s.2.2) ∧ rd_H n m s.2.2 ∧ rd_H n m s.1 ∧ rd_H n (m + 3) s.2.1) → pc_C G b n mX4_readOne (d + 1) o (rd_O (lx_nx b n) k0 s) ∧ pc_C G b n mX4_readNot (d + 1 + 1 + 1 + 1) o (rd_N (lx_nx b n) k0 s) ∧ pc_C G b n mX4_readE (d + 1 + 1 + 1 + 1 + 1 + 1) o (rd_E (lx_nx b n) k0 s) := by
    intro k0 d o m s hd ho hk hm h
    obtain ⟨a1, a2, a3, a4, a5, a6⟩ := rd_bH (k0 := k0) (s := s) (m := m) (n := n) nx_Y hm (fun z => (h z).2)
    have c1 := pc_one G b n d hd o ho k0 hk s.2.2 s.1 (fun z => ⟨(h z).1.2.2, (h z).1.1⟩) m (fun z => ⟨(h z).2.1, (h z).2.2.1⟩)
    have c2 := pc_term G b n (d + 1) (by omega) o ho _ c1 m a1
    have c3 := pc_sum G b n (d + 1 + 1) (by omega) o ho _ c2 (m + 1) a2
    have c4 := pc_not G b n (d + 1 + 1 + 1) (by omega) o ho k0 hk s.2.1 _ (fun z => ((h z).1.2.1).up (by omega)) c3 (m + 3) (fun z => (h z).2.2.2) (rd_Hm a3 (by omega))
    have c5 := pc_and G b n (d + 1 + 1 + 1 + 1) (by omega) o ho _ c4 (m + 3) a4
    have c6 := pc_E G b n (d + 1 + 1 + 1 + 1 + 1) (by omega) o ho _ c5 (m + 4) a5
    exact ⟨c1, c4, c6⟩
  intro k
  induction k with
  | zero =>
    intro o ho
    have ho5 : o = 5 := by omega
    subst ho5
    exact key false 6 5 1 (rd_z, rd_z, rd_z) (Nat.le_refl _) (Nat.le_refl _) rfl (Nat.le_refl _) (fun z => by cases z)
  | succ k ih =>
    intro o ho
    obtain ⟨i1, i2, i3⟩ := ih (o + 1) (by omega)
    obtain ⟨⟨b1, b2, b3⟩, -⟩ := rd_all (n := n) hn nx_Y k (by omega)
    have z := key true (6 * k + 12) o (6 + 5 * k) (rd (lx_nx b n) k) (by omega) (by omega) (decide_eq_true (by omega)).symm (by omega) (fun _ => ⟨⟨i1.up (by omega), i2.up (by omega), i3⟩, b3, rd_Hm b1 (by omega), rd_Hm b2 (by omega)⟩)
    rw [show 6 * (k + 1) + 7 = 6 * k + 12 + 1 by omega, show 6 * (k + 1) + 10 = 6 * k + 12 + 1 + 1 + 1 + 1 by omega, show 6 * (k + 1) + 12 = 6 * k + 12 + 1 + 1 + 1 + 1 + 1 + 1 by omega]
    exact z
