/-! the class: read -/
theorem am_nwI {σ : am_M} {c n x y : Nat} (h : x < σ.1.length) : (am_nw σ c n).2.1 x y = σ.2.1 x y := if_neg (by omega)
theorem am_nwR {σ : am_M} {c n x y : Nat} (h : x < σ.1.length) : (am_nw σ c n).2.2 x y = σ.2.2 x y := if_neg (by omega)
theorem am_nwK {σ : am_M} {c n x : Nat} {k : Nat × Nat} (h : σ.1[x]? = some k) : (am_nw σ c n).1[x]? = some k := (List.getElem?_append_left (List.getElem?_eq_some_iff.mp h).1).trans h
theorem am_nwL {σ : am_M} {c n : Nat} : (am_nw σ c n).1[σ.1.length]? = some (c, n) := by
  show (σ.1 ++ [(c, n)])[σ.1.length]? = _
  rw [List.getElem?_append_right (Nat.le_refl _), Nat.sub_self]; rfl
theorem am_nwN {σ : am_M} {c n : Nat} : (am_nw σ c n).1.length = σ.1.length + 1 := List.length_append
theorem pr3 {r : lx_F} {v : Bool} (h : r.1 = v) : r = (v, r.2.1, r.2.2) := by subst h; rfl
/-- a text of the steps l, laid behind all else -/
def al_X (σ σ' : am_M) (l : List Int32) (p q : Int32) : Prop := σ'.1 = σ.1 ++ [(5, 4), (10, l.length), (10, 32)] ∧ (∀ x k, x < σ.1.length → ¬ ((x = 38 ∧ 3 ≤ k) ∨ x = 40) → σ'.2.1 x k = σ.2.1 x k) ∧ (∀ x k, x < σ.1.length → σ'.2.2 x k = σ.2.2 x k) ∧ σ'.2.1 σ.1.length 1 = p ∧ σ'.2.1 σ.1.length 2 = q ∧ σ'.2.2 σ.1.length 0 = some (σ.1.length + 1) ∧ σ'.2.2 σ.1.length 3 = some (σ.1.length + 2) ∧ ∀ i, i < l.length → σ'.2.1 (σ.1.length + 1) i = cx_st (l.getD i 0)
theorem al_of {σ σ9 : am_M} {l : List Int32} {p q : Int32} (hF : fr_K σ σ9) (h40 : 41 ≤ σ.1.length) (hS : st_X σ9 l) : al_X σ (am_tl (am_ac (am_nw (am_nw σ9 5 4) 10 l.length) 40 (am_nw σ9 5 4).1.length 0 0 l.length) σ9.1.length (am_nw σ9 5 4).1.length p q) l p q := by
  have e1 : σ9.1 = σ.1 := hF.1
  have e2 : σ9.2.2 = σ.2.2 := hF.2.1
  have n0 : σ9.1.length = σ.1.length := by rw [e1]
  have n1 : (am_nw σ9 5 4).1.length = σ.1.length + 1 := by rw [am_nwN, n0]
  have n2 : (am_nw (am_nw σ9 5 4) 10 l.length).1.length = σ.1.length + 2 := by rw [am_nwN, n1]
  have n3 : (am_ac (am_nw (am_nw σ9 5 4) 10 l.length) 40 (am_nw σ9 5 4).1.length 0 0 l.length).1.length = σ.1.length + 2 := n2
  rw [n1, n0]
  have rI : ∀ x y, x < σ.1.length → (am_nw (am_nw σ9 5 4) 10 l.length).2.1 x y = σ9.2.1 x y := fun x y hx => (am_nwI (by omega)).trans (am_nwI (by omega))
  have rA : ∀ x y, ¬ x = σ.1.length + 1 → (am_ac (am_nw (am_nw σ9 5 4) 10 l.length) 40 (σ.1.length + 1) 0 0 l.length).2.1 x y = (am_nw (am_nw σ9 5 4) 10 l.length).2.1 x y := fun x y hx => if_neg (fun z => hx z.1)
  have rB : ∀ y, y < l.length → (am_ac (am_nw (am_nw σ9 5 4) 10 l.length) 40 (σ.1.length + 1) 0 0 l.length).2.1 (σ.1.length + 1) y = σ9.2.1 40 y := fun y hy => (if_pos ⟨rfl, by omega, by omega⟩).trans (by rw [Nat.sub_zero, Nat.zero_add]; exact rI 40 y (by omega))
  refine ⟨?_, fun x k hx hn => ?_, fun x k hx => ?_, ?_, ?_, ?_, ?_, fun i hi => ?_⟩
  · show ((σ9.1 ++ [(5, 4)]) ++ [(10, l.length)]) ++ [(10, 32)] = _
    rw [e1, List.append_assoc, List.append_assoc]; rfl
  · refine (am_ua (by omega)).trans ((am_ua (by omega)).trans ((am_nwI (c := 10) (n := 32) (by show x < (am_nw (am_nw σ9 5 4) 10 l.length).1.length; omega)).trans ((rA x k (by omega)).trans ((rI x k hx).trans (hF.2.2 x k hn)))))
  · refine (am_ua (by omega)).trans ((am_ua (by omega)).trans ((am_nwR (c := 10) (n := 32) (by show x < (am_nw (am_nw σ9 5 4) 10 l.length).1.length; omega)).trans ?_))
    show (am_nw (am_nw σ9 5 4) 10 l.length).2.2 x k = _
    rw [am_nwR (by omega), am_nwR (by omega), e2]
  · exact (am_uk (by decide)).trans am_us
  · exact am_us
  · exact am_us
  · refine (am_uk (by decide)).trans (am_us.trans ?_)
    rw [show (am_ac (am_nw (am_nw σ9 5 4) 10 l.length) 40 (σ.1.length + 1) 0 0 l.length).1.length = σ.1.length + 2 from n2]
  · refine (am_ua (by omega)).trans ((am_ua (by omega)).trans ((am_nwI (c := 10) (n := 32) (by show _ < (am_nw (am_nw σ9 5 4) 10 l.length).1.length; omega)).trans ((rB i hi).trans (hS.2 i hi))))
/-- how a text is read: not, and where; or laid -/
def am_qRd (nx : Nat → lx_T) (σ0 : am_M) : Option Value → am_M → Prop := fun v σ' => ((tx nx).1 = false ∧ v = some .null ∧ fr_K σ0 σ' ∧ σ'.2.1 38 4 = nI (tx nx).2.2) ∨ ((tx nx).1 = true ∧ v = some (.ref σ0.1.length) ∧ al_X σ0 σ' ((tx nx).2.1.1 ++ (tx nx).2.1.2.1 ++ (tx nx).2.1.2.2) (nI (tx nx).2.1.1.length) (nI ((tx nx).2.1.1 ++ (tx nx).2.1.2.1).length) ∧ ((tx nx).2.1.1 ++ (tx nx).2.1.2.1 ++ (tx nx).2.1.2.2).length < 160)
theorem qRd0 {nx : Nat → lx_T} {σ0 σ' : am_M} {y : Nat} (h : (tx nx).1 = false ∧ (tx nx).2.2 = y) (f : fr_K σ0 σ') (hp : σ'.2.1 38 4 = nI y) : am_qRd nx σ0 (some .null) σ' := Or.inl ⟨h.1, rfl, f, by rw [h.2]; exact hp⟩
set_option maxHeartbeats 400000 in
set_option maxRecDepth 100000 in
theorem c_readT (G : am_G) (D : Nat) (σ σ9 : am_M) (hF : fr_K σ σ9) (hT : ty_T σ9) (l : List Int32) (hl : l.length < 160) (hS : st_X σ9 l) (p q : Int32) (Q : Option Value → am_M → Prop) (hq : ∀ σ', al_X σ σ' l p q → Q (some (.ref σ.1.length)) σ') : am_Ev G mX4_read (am_R (D + 44) 3 196) 3 196 Q 66 [(0, .ref 38), (1, .int p), (2, .int q)] [] σ9 0 0 := by
  have hL9 : σ9.1.length = σ.1.length := by rw [hF.1]
  have h41 : 41 ≤ σ9.1.length := (List.getElem?_eq_some_iff.mp hT.2.2.1).1
  refine ev_new (c := 5) (N := 4) (L := σ9.1.length) dX4_read_66 (by decide) rfl cl_X4_50 am_ib5 am_in5 rfl (Nat.le_of_ble_eq_true rfl) (Nat.le_of_ble_eq_true rfl) ?_
  refine ev_dup dX4_read_69 rfl ?_
  refine ev_aload_n dX4_read_70 rfl rfl ?_
  refine ev_getR (b := 40) dX4_read_71 fl_X4_13 (am_nwK hT.1) ((am_nwR (by omega)).trans hT.2.2.2.2) ?_
  refine ev_aload_n dX4_read_74 rfl rfl ?_
  refine ev_getI (v := nI l.length) dX4_read_75 fl_X4_37 (am_nwK hT.1) ((am_nwI (by omega)).trans hS.1) ?_
  refine ev_callS (as := [.ref 40, .int (nI l.length)]) (st := [.ref σ9.1.length, .ref σ9.1.length]) dX4_read_78 mfJ7_copyOf_59c91 lk_X4_52 (c_copyOf G (D + 42) (am_nw σ9 5 4) 40 160 l.length (am_nwK hT.2.2.1) hl (by decide)) rfl rfl (Nat.le_of_ble_eq_true rfl) (am_hR (by omega) (by decide)) ⟨Nat.le_of_ble_eq_true rfl, (show 0 + 4 + l.length ≤ 196 by omega)⟩ ?_
  rintro _ σc ⟨rfl, hσc⟩
  have hkc : σc.1[σ9.1.length]? = some (5, 4) := by rw [hσc]; exact am_nwK am_nwL
  refine ev_iload_n dX4_read_81 rfl rfl ?_
  refine ev_iload_n dX4_read_82 rfl rfl ?_
  refine ev_callI (as := [.ref (am_nw σ9 5 4).1.length, .int p, .int q]) (st := [.ref σ9.1.length]) dX4_read_83 mfX5_init lk_X4_58 (c_X5_init G (D + 42) σc σ9.1.length (am_nw σ9 5 4).1.length hkc p q) rfl rfl (Nat.le_of_ble_eq_true rfl) (am_hR (by omega) (by decide)) ⟨Nat.le_of_ble_eq_true rfl, (show 0 + 4 + l.length + 32 ≤ 196 by omega)⟩ ?_
  rintro _ _ ⟨rfl, rfl⟩
  refine ev_reta dX4_read_86 rfl (Nat.le_of_ble_eq_true rfl) (show 0 + 4 + l.length + 32 ≤ 196 by omega) ?_
  rw [hL9, hσc, ← hL9]
  have z := al_of (p := p) (q := q) hF (by omega) hS
  have z2 := hq _ z
  rw [← hL9] at z2
  exact z2
set_option maxHeartbeats 400000 in
set_option maxRecDepth 100000 in
theorem c_X4_read (G : am_G) (D : Nat) (b : Nat → Int32) (n : Nat) (σ : am_M) (hB : tb_T b n σ) : am_Mt G (D + 44) mX4_read [.ref 38] σ 3 196 (am_qRd (lx_nx b n) σ) := by
  have h160 := hB.2.2.1
  have l0 : ([] : List Int32).length = 0 := rfl
  refine am_of moX4_read (Nat.le_of_ble_eq_true rfl) ?_
  show am_Ev G mX4_read (am_R (D + 44) 3 196) 3 196 (am_qRd (lx_nx b n) σ) 0 [(0, .ref 38)] [] σ 0 0
  refine ev_aload_n dX4_read_0 rfl rfl ?_
  refine ev_iconst (v := 0) dX4_read_1 (by decide) ?_
  refine ev_putI dX4_read_2 fl_X4_34 rfl rfl (hB.1.1) ?_
  refine ev_aload_n dX4_read_5 rfl rfl ?_
  refine ev_iconst (v := 0) dX4_read_6 (by decide) ?_
  refine ev_putI dX4_read_7 fl_X4_37 rfl rfl (hB.1.1) ?_
  refine ev_aload_n dX4_read_10 rfl rfl ?_
  refine ev_callV (as := []) (st := []) dX4_read_11 mfX4_next lk_X4_40 (hB.1.1) (by decide) rfl (c_X4_next G D b n (am_sI (am_sI σ 38 3 0) 38 6 0) (hB.K (fr_K.wr (by omega) (fr_K.wr (by omega) fr_K.rf))) 0 (Nat.zero_le _) (am_ru (by omega) am_rs)) rfl rfl (Nat.le_of_ble_eq_true rfl) (am_hR (by omega) (by decide)) ⟨Nat.zero_le _, Nat.zero_le _⟩ ?_
  rintro _ σ1 ⟨rfl, hF1, hT1⟩
  have hFF1 : fr_K σ σ1 := fr_K.tr (fr_K.wr (by omega) (fr_K.wr (by omega) fr_K.rf)) hF1.K
  have hS1 : st_X σ1 [] := ⟨(hF1.2.2 38 6 (by omega)).trans am_rs, fun i hi => absurd hi (Nat.not_lt_zero _)⟩
  have hK1 := nx_Y (b := b) (n := n) 0 (Nat.zero_le _)
  refine ev_aload_n dX4_read_14 rfl rfl ?_
  refine ev_bipush (v := (-19)) dX4_read_15 (by decide) ?_
  refine ev_callV (as := [.int (-19)]) (st := []) dX4_read_17 mfX4_readPart lk_X4_43 ((hB.K hFF1).1.1) (by decide) rfl (c_X4_readPart G D b n σ1 (hB.K hFF1) ([]) (lx_nx b n 0) hT1 hS1 hK1.1 (by omega) (-19) (by decide)) rfl rfl (Nat.le_of_ble_eq_true rfl) (am_hR (by omega) (by decide)) ⟨Nat.zero_le _, Nat.zero_le _⟩ ?_
  rintro _ σ2 (⟨ok2, rfl, hF2, hT2, hS2⟩ | ⟨ok2, rfl, hF2, hN2⟩)
  · skip
    have hFF2 : fr_K σ σ2 := fr_K.tr hFF1 hF2
    obtain ⟨hb2, x2, y2, z2⟩ := tx_pB h160 (by decide) hK1.1 ok2
    have hK2 := nx_Y (b := b) (n := n) _ hb2.1.2.1
    have p2 := hK2.2
    have l2 := len_a (l := []) (m := (tx_p (lx_nx b n) (-19) (lx_nx b n 0)).2.1)
    have hx1 := tx_1T (pr3 ok2)
    refine ev_if_ne (tgt := 25) dX4_read_20 (by decide) (fun _ => ?_) (fun c => absurd c (by decide))
    refine ev_aload_n dX4_read_25 rfl rfl ?_
    refine ev_getI (v := nI ([] ++ (tx_p (lx_nx b n) (-19) (lx_nx b n 0)).2.1).length) dX4_read_26 fl_X4_37 ((hB.K hFF2).1.1) hS2.1 ?_
    refine ev_istore_n (lv' := [(0, .ref 38), (1, .int (nI ([] ++ (tx_p (lx_nx b n) (-19) (lx_nx b n 0)).2.1).length))]) dX4_read_29 rfl (by decide) rfl ?_
    refine ev_aload_n dX4_read_30 rfl rfl ?_
    refine ev_bipush (v := (-20)) dX4_read_31 (by decide) ?_
    refine ev_callV (as := [.int (-20)]) (st := []) dX4_read_33 mfX4_readPart lk_X4_43 ((hB.K hFF2).1.1) (by decide) rfl (c_X4_readPart G D b n σ2 (hB.K hFF2) ([] ++ (tx_p (lx_nx b n) (-19) (lx_nx b n 0)).2.1) (lx_nx b n (tx_p (lx_nx b n) (-19) (lx_nx b n 0)).2.2.2.2) hT2 hS2 hK2.1 (by omega) (-20) (by decide)) rfl rfl (Nat.le_of_ble_eq_true rfl) (am_hR (by omega) (by decide)) ⟨Nat.zero_le _, Nat.zero_le _⟩ ?_
    rintro _ σ3 (⟨ok3, rfl, hF3, hT3, hS3⟩ | ⟨ok3, rfl, hF3, hN3⟩)
    · skip
      have hFF3 : fr_K σ σ3 := fr_K.tr hFF2 hF3
      obtain ⟨hb3, x3, y3, z3⟩ := tx_pB h160 (by decide) hK2.1 ok3
      have hK3 := nx_Y (b := b) (n := n) _ hb3.1.2.1
      have p3 := hK3.2
      have l3 := len_a (l := ([] ++ (tx_p (lx_nx b n) (-19) (lx_nx b n 0)).2.1)) (m := (tx_p (lx_nx b n) (-20) (lx_nx b n (tx_p (lx_nx b n) (-19) (lx_nx b n 0)).2.2.2.2)).2.1)
      have hx2 := tx_2T hx1 (pr3 ok3)
      refine ev_if_ne (tgt := 41) dX4_read_36 (by decide) (fun _ => ?_) (fun c => absurd c (by decide))
      refine ev_aload_n dX4_read_41 rfl rfl ?_
      refine ev_getI (v := nI (([] ++ (tx_p (lx_nx b n) (-19) (lx_nx b n 0)).2.1) ++ (tx_p (lx_nx b n) (-20) (lx_nx b n (tx_p (lx_nx b n) (-19) (lx_nx b n 0)).2.2.2.2)).2.1).length) dX4_read_42 fl_X4_37 ((hB.K hFF3).1.1) hS3.1 ?_
      refine ev_istore_n (lv' := [(0, .ref 38), (1, .int (nI ([] ++ (tx_p (lx_nx b n) (-19) (lx_nx b n 0)).2.1).length)), (2, .int (nI (([] ++ (tx_p (lx_nx b n) (-19) (lx_nx b n 0)).2.1) ++ (tx_p (lx_nx b n) (-20) (lx_nx b n (tx_p (lx_nx b n) (-19) (lx_nx b n 0)).2.2.2.2)).2.1).length))]) dX4_read_45 rfl (by decide) rfl ?_
      refine ev_aload_n dX4_read_46 rfl rfl ?_
      refine ev_bipush (v := (-21)) dX4_read_47 (by decide) ?_
      refine ev_callV (as := [.int (-21)]) (st := []) dX4_read_49 mfX4_readPart lk_X4_43 ((hB.K hFF3).1.1) (by decide) rfl (c_X4_readPart G D b n σ3 (hB.K hFF3) (([] ++ (tx_p (lx_nx b n) (-19) (lx_nx b n 0)).2.1) ++ (tx_p (lx_nx b n) (-20) (lx_nx b n (tx_p (lx_nx b n) (-19) (lx_nx b n 0)).2.2.2.2)).2.1) (lx_nx b n (tx_p (lx_nx b n) (-20) (lx_nx b n (tx_p (lx_nx b n) (-19) (lx_nx b n 0)).2.2.2.2)).2.2.2.2) hT3 hS3 hK3.1 (by omega) (-21) (by decide)) rfl rfl (Nat.le_of_ble_eq_true rfl) (am_hR (by omega) (by decide)) ⟨Nat.zero_le _, Nat.zero_le _⟩ ?_
      rintro _ σ4 (⟨ok4, rfl, hF4, hT4, hS4⟩ | ⟨ok4, rfl, hF4, hN4⟩)
      · skip
        have hFF4 : fr_K σ σ4 := fr_K.tr hFF3 hF4
        obtain ⟨hb4, x4, y4, z4⟩ := tx_pB h160 (by decide) hK3.1 ok4
        have hK4 := nx_Y (b := b) (n := n) _ hb4.1.2.1
        have p4 := hK4.2
        have l4 := len_a (l := (([] ++ (tx_p (lx_nx b n) (-19) (lx_nx b n 0)).2.1) ++ (tx_p (lx_nx b n) (-20) (lx_nx b n (tx_p (lx_nx b n) (-19) (lx_nx b n 0)).2.2.2.2)).2.1)) (m := (tx_p (lx_nx b n) (-21) (lx_nx b n (tx_p (lx_nx b n) (-20) (lx_nx b n (tx_p (lx_nx b n) (-19) (lx_nx b n 0)).2.2.2.2)).2.2.2.2)).2.1)
        have hx3 := pr3 ok4
        refine ev_if_eq (tgt := 64) dX4_read_52 (by decide) (fun c => absurd c (by decide)) (fun _ => ?_)
        refine ev_aload_n dX4_read_55 rfl rfl ?_
        refine ev_getI (v := (lx_nx b n (tx_p (lx_nx b n) (-21) (lx_nx b n (tx_p (lx_nx b n) (-20) (lx_nx b n (tx_p (lx_nx b n) (-19) (lx_nx b n 0)).2.2.2.2)).2.2.2.2)).2.2.2.2).1) dX4_read_56 fl_X4_47 ((hB.K hFF4).1.1) hT4.1 ?_
        refine ev_bipush (v := (-22)) dX4_read_59 (by decide) ?_
        refine ev_icmp_eq (tgt := 66) dX4_read_61 (by decide) (fun c5 => ?_) (fun c5 => ?_)
        · skip
          have hx4 := tx_4T hx2 hx3 c5
          refine c_readT G D σ σ4 hFF4 (hB.K hFF4).1 ((([] ++ (tx_p (lx_nx b n) (-19) (lx_nx b n 0)).2.1) ++ (tx_p (lx_nx b n) (-20) (lx_nx b n (tx_p (lx_nx b n) (-19) (lx_nx b n 0)).2.2.2.2)).2.1) ++ (tx_p (lx_nx b n) (-21) (lx_nx b n (tx_p (lx_nx b n) (-20) (lx_nx b n (tx_p (lx_nx b n) (-19) (lx_nx b n 0)).2.2.2.2)).2.2.2.2)).2.1) (by omega) hS4 (nI ([] ++ (tx_p (lx_nx b n) (-19) (lx_nx b n 0)).2.1).length) (nI (([] ++ (tx_p (lx_nx b n) (-19) (lx_nx b n 0)).2.1) ++ (tx_p (lx_nx b n) (-20) (lx_nx b n (tx_p (lx_nx b n) (-19) (lx_nx b n 0)).2.2.2.2)).2.1).length) (am_qRd (lx_nx b n) σ) (fun σ9 hal => Or.inr ⟨hx4.1, rfl, ?_, ?_⟩)
          · rw [hx4.2]; exact hal
          · rw [hx4.2]
            show ((([] ++ (tx_p (lx_nx b n) (-19) (lx_nx b n 0)).2.1) ++ (tx_p (lx_nx b n) (-20) (lx_nx b n (tx_p (lx_nx b n) (-19) (lx_nx b n 0)).2.2.2.2)).2.1) ++ (tx_p (lx_nx b n) (-21) (lx_nx b n (tx_p (lx_nx b n) (-20) (lx_nx b n (tx_p (lx_nx b n) (-19) (lx_nx b n 0)).2.2.2.2)).2.2.2.2)).2.1).length < 160
            omega
        · skip
          refine ev_null dX4_read_64 ?_
          refine ev_retaN dX4_read_65 rfl (Nat.zero_le _) (Nat.zero_le _) ?_
          exact qRd0 (tx_4F hx2 hx3 c5) hFF4 hT4.2.1
      · skip
        have hFF4 : fr_K σ σ4 := fr_K.tr hFF3 hF4
        refine ev_if_eq (tgt := 64) dX4_read_52 (by decide) (fun _ => ?_) (fun c => absurd (by decide) c)
        refine ev_null dX4_read_64 ?_
        refine ev_retaN dX4_read_65 rfl (Nat.zero_le _) (Nat.zero_le _) ?_
        exact qRd0 (tx_3F hx2 (pr3 ok4)) hFF4 hN4
    · skip
      have hFF3 : fr_K σ σ3 := fr_K.tr hFF2 hF3
      refine ev_if_ne (tgt := 41) dX4_read_36 (by decide) (fun c => absurd (by decide) c) (fun _ => ?_)
      refine ev_null dX4_read_39 ?_
      refine ev_retaN dX4_read_40 rfl (Nat.zero_le _) (Nat.zero_le _) ?_
      exact qRd0 (tx_2F hx1 (pr3 ok3)) hFF3 hN3
  · skip
    have hFF2 : fr_K σ σ2 := fr_K.tr hFF1 hF2
    refine ev_if_ne (tgt := 25) dX4_read_20 (by decide) (fun c => absurd (by decide) c) (fun _ => ?_)
    refine ev_null dX4_read_23 ?_
    refine ev_retaN dX4_read_24 rfl (Nat.zero_le _) (Nat.zero_le _) ?_
    exact qRd0 (tx_1F (pr3 ok2)) hFF2 hN2

