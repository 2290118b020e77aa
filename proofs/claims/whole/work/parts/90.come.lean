/-! the class: come -/
/-- what a call that lays something new answers -/
def am_qG (x : Int32 × am_S) (σ0 : am_M) : Option Value → am_M → Prop := fun r σ' => r = some (.int x.1) ∧ iv_X x.2 σ' ∧ fr_L σ0 σ'
theorem am_qGi {x : Int32 × am_S} {v : Int32} {B : am_S} {σ0 σ' : am_M} (e : x = (v, B)) (hI : iv_X B σ') (hf : fr_L σ0 σ') : am_qG x σ0 (some (.int v)) σ' := by subst e; exact ⟨rfl, hI, hf⟩
def am_gs (σ : am_M) (L : Nat) (k m t s : Int32) : am_M := am_sI (am_sI (am_sI (am_sI (am_sR (am_nw σ 10 4) L 3 (some σ.1.length)) L 0 k) L 1 m) L 2 t) L 4 s
theorem c_X1_init (G : am_G) (D : Nat) (σ : am_M) (L : Nat) (hk : σ.1[L]? = some (1, 5)) (k m t s : Int32) : am_Mt G (D + 1) mX1_init [.ref L, .int k, .int m, .int t, .int s] σ 1 4 (fun v σ' => v = none ∧ σ' = am_gs σ L k m t s) := by
  have hk2 : (am_nw σ 10 4).1[L]? = some (1, 5) := am_nwK hk
  refine am_of moX1_init (Nat.le_of_ble_eq_true rfl) ?_
  show am_Ev G mX1_init (am_R (D + 1) 1 4) 1 4 _ 0 [(0, .ref L), (1, .int k), (2, .int m), (3, .int t), (4, .int s)] [] σ 0 0
  refine ev_aload_n dX1_init_0 rfl rfl ?_
  refine ev_obj dX1_init_1 lk_X1_3 (Nat.le_of_ble_eq_true rfl) ⟨Nat.le_add_left _ _, by show 20 ≤ 64 * (D + 1); omega⟩ ?_
  refine ev_aload_n dX1_init_4 rfl rfl ?_
  refine ev_iconst (v := 4) dX1_init_5 (by decide) ?_
  refine ev_newa (L := σ.1.length) (N := 4) dX1_init_6 (by decide) rfl (by decide) rfl (Nat.le_refl _) (by show 0 + 4 ≤ 4; omega) ?_
  refine ev_putRF dX1_init_8 fl_X1_9 fln_X1_9 rfl (by decide) (by decide) hk2 ?_
  refine ev_aload_n dX1_init_11 rfl rfl ?_
  refine ev_iload_n dX1_init_12 rfl rfl ?_
  refine ev_putIF dX1_init_13 fl_X1_15 fln_X1_15 rfl (by decide) (by decide) rfl hk2 ?_
  refine ev_aload_n dX1_init_16 rfl rfl ?_
  refine ev_iload_n dX1_init_17 rfl rfl ?_
  refine ev_putIF dX1_init_18 fl_X1_19 fln_X1_19 rfl (by decide) (by decide) rfl hk2 ?_
  refine ev_aload_n dX1_init_21 rfl rfl ?_
  refine ev_iload_n dX1_init_22 rfl rfl ?_
  refine ev_putIF dX1_init_23 fl_X1_22 fln_X1_22 rfl (by decide) (by decide) rfl hk2 ?_
  refine ev_aload_n dX1_init_26 rfl rfl ?_
  refine ev_iload dX1_init_27 rfl ?_
  refine ev_putI dX1_init_29 fl_X1_25 rfl rfl hk2 ?_
  exact ev_retv dX1_init_32 rfl (Nat.le_refl _) (by show 0 + 4 ≤ 4; omega) ⟨rfl, rfl⟩
theorem s_cm_x {A : am_S} {n a k : Nat} {km l x : Int32} (h0 : ¬ (a = 65 ∧ k = 0)) (h1 : ¬ (66 ≤ a ∧ a ≤ 69 ∧ k = n)) (h2 : ¬ (a = 70 ∧ 4 * n ≤ k)) : s_cm A n km l x a k = A a k := by
  unfold s_cm
  rw [am_un (by omega), am_un (by omega), am_un (by omega), am_un (by omega), am_un (by omega), am_un (by omega), am_un (by omega), am_un (by omega), am_un (by omega)]
theorem s_cm_v {A : am_S} {n : Nat} {km l x : Int32} : s_cm A n km l x 65 0 = nI (n + 1) ∧ s_cm A n km l x 66 n = km / 10 ∧ s_cm A n km l x 68 n = km - km / 10 * 10 ∧ s_cm A n km l x 67 n = l ∧ s_cm A n km l x 69 n = x ∧ ∀ j, j < 4 → s_cm A n km l x 70 (4 * n + j) = 0 := by
  unfold s_cm
  refine ⟨am_us, ?_, ?_, ?_, ?_, fun j hj => ?_⟩
  · rw [am_un (by omega), am_un (by omega), am_un (by omega), am_un (by omega), am_un (by omega), am_un (by omega), am_un (by omega), am_un (by omega)]; exact am_us
  · rw [am_un (by omega), am_un (by omega), am_un (by omega), am_un (by omega), am_un (by omega), am_un (by omega), am_un (by omega)]; exact am_us
  · rw [am_un (by omega), am_un (by omega), am_un (by omega), am_un (by omega), am_un (by omega), am_un (by omega)]; exact am_us
  · rw [am_un (by omega), am_un (by omega), am_un (by omega), am_un (by omega), am_un (by omega)]; exact am_us
  · rcases (show j = 0 ∨ j = 1 ∨ j = 2 ∨ j = 3 by omega) with rfl | rfl | rfl | rfl
    · rw [am_un (by omega), am_un (by omega), am_un (by omega), am_un (by omega)]; exact am_us
    · rw [am_un (by omega), am_un (by omega), am_un (by omega)]; exact am_us
    · rw [am_un (by omega), am_un (by omega)]; exact am_us
    · rw [am_un (by omega)]; exact am_us
theorem iv_X.cm {A : am_S} {σ : am_M} {km l x : Int32} (h : iv_X A σ) (hA : wf_A A) (hn : s_np A < 7) : iv_X (s_cm A (s_np A) km l x) (am_sI (am_sR (am_gs (am_nw σ 1 5) σ.1.length (km / 10) (km - km / 10 * 10) l x) 33 (s_np A) (some σ.1.length)) 32 12 (nI (s_np A + 1))) := by
  have hl := ly_89 h.ly
  obtain ⟨v0, v6, v8, v7, v9, vj⟩ := s_cm_v (A := A) (n := s_np A) (km := km) (l := l) (x := x)
  have n1 : (am_nw σ 1 5).1.length = σ.1.length + 1 := am_nwN
  have ep : s_np (s_cm A (s_np A) km l x) = s_np A + 1 := (congrArg sN v0).trans (sN_n (by omega))
  have et : s_nt (s_cm A (s_np A) km l x) = s_nt A := congrArg sN (s_cm_x (by omega) (by omega) (by omega))
  have eK : ∀ (y : Nat) (k : Nat × Nat), ([(1, 5), (10, 4)] : List (Nat × Nat))[y]? = some k → (am_nw (am_nw σ 1 5) 10 4).1[σ.1.length + y]? = some k := fun y k hy => by
    show ((σ.1 ++ [(1, 5)]) ++ [(10, 4)])[σ.1.length + y]? = _
    rw [List.append_assoc, List.getElem?_append_right (by omega), Nat.add_sub_cancel_left]; exact hy
  have rI : ∀ a k, a < σ.1.length → (am_gs (am_nw σ 1 5) σ.1.length (km / 10) (km - km / 10 * 10) l x).2.1 a k = σ.2.1 a k := fun a k ha =>
    (am_ua (by omega)).trans ((am_ua (by omega)).trans ((am_ua (by omega)).trans ((am_ua (by omega)).trans ((am_nwI (c := 10) (n := 4) (by omega)).trans (am_nwI ha)))))
  have rR : ∀ a k, a < σ.1.length → (am_gs (am_nw σ 1 5) σ.1.length (km / 10) (km - km / 10 * 10) l x).2.2 a k = σ.2.2 a k := fun a k ha =>
    (am_ua (by omega)).trans ((am_nwR (c := 10) (n := 4) (by omega)).trans (am_nwR ha))
  have r33 : ∀ p g, am_up (am_gs (am_nw σ 1 5) σ.1.length (km / 10) (km - km / 10 * 10) l x).2.2 33 (s_np A) (some σ.1.length) 33 p = some g → p < s_np A + 1 → (p = s_np A ∧ g = σ.1.length) ∨ (p < s_np A ∧ σ.2.2 33 p = some g) := fun p g hg hp => by
    by_cases e : p = s_np A
    · subst e
      rw [am_us] at hg
      exact Or.inl ⟨rfl, (Option.some.inj hg).symm⟩
    · rw [am_uk e, rR 33 p (by omega)] at hg
      exact Or.inr ⟨by omega, hg⟩
  have hlt : ∀ p g, p < s_np A → σ.2.2 33 p = some g → g < σ.1.length := fun p g hp hg => (List.getElem?_eq_some_iff.mp (h.gk hp hg)).1
  refine h.ext hA (fun a k hk => ?_) (fun a k ha hn2 => ?_) (fun a k ha hn1 hn2 => ?_) (fun a k z1 z2 z3 z4 z5 => s_cm_x (by omega) (by omega) (by omega)) ?_ ?_ ?_ (fun t ht => Or.inl (by rw [et] at ht; exact ht)) (fun p hp => ?_) (fun p q g hp hq h1 h2 => ?_)
  · exact am_nwK (am_nwK hk)
  · exact (am_un (by omega)).trans (rI a k ha)
  · exact (am_un (by omega)).trans (rR a k ha)
  · rw [s_cm_x (by omega) (by omega) (by omega)]; exact am_ru (by omega) (show (am_gs (am_nw σ 1 5) σ.1.length (km / 10) (km - km / 10 * 10) l x).2.1 38 2 = _ from (rI 38 2 (by omega)).trans h.f38)
  · rw [v0]; exact am_rs
  · rw [s_cm_x (by omega) (by omega) (by omega)]; exact am_ru (by omega) (show (am_gs (am_nw σ 1 5) σ.1.length (km / 10) (km - km / 10 * 10) l x).2.1 32 14 = _ from (rI 32 14 (by omega)).trans h.f14)
  · by_cases e : p = s_np A
    · subst e
      refine Or.inr ⟨σ.1.length, am_us, ⟨hl, eK 0 _ rfl, eK 1 _ rfl, ?_⟩, ?_, ?_, ?_, ?_, fun j hj => ?_⟩
      · refine (am_un (by omega)).trans (am_us.trans ?_)
        rw [n1]
      · rw [v6]; exact (am_un (by omega)).trans ((am_un (by omega)).trans ((am_un (by omega)).trans ((am_un (by omega)).trans am_us)))
      · rw [v8]; exact (am_un (by omega)).trans ((am_un (by omega)).trans ((am_un (by omega)).trans am_us))
      · rw [v7]; exact (am_un (by omega)).trans ((am_un (by omega)).trans am_us)
      · rw [v9]; exact (am_un (by omega)).trans am_us
      · rw [vj j hj]
        refine (am_un (by omega)).trans ((am_ua (by omega)).trans ((am_ua (by omega)).trans ((am_ua (by omega)).trans ((am_ua (by omega)).trans ?_))))
        show (if σ.1.length + 1 = (am_nw σ 1 5).1.length then (0 : Int32) else _) = 0
        rw [if_pos n1.symm]
    · exact Or.inl (by rw [ep] at hp; omega)
  · rw [ep] at hp hq
    rcases r33 p g h1 hp with ⟨e1, e2⟩ | ⟨e1, e2⟩
    · rcases r33 q g h2 hq with ⟨e3, e4⟩ | ⟨e3, e4⟩
      · omega
      · have := hlt q g e3 e4; omega
    · rcases r33 q g h2 hq with ⟨e3, e4⟩ | ⟨e3, e4⟩
      · have := hlt p g e1 e2; omega
      · exact h.gi e1 e3 e2 e4
set_option maxHeartbeats 400000 in
theorem c_X6_come (G : am_G) (D : Nat) (A : am_S) (σ : am_M) (hA : wf_A A) (hX : iv_X A σ) (km l x : Int32) : am_Mt G (D + 2) mX6_come [.ref 32, .int km, .int l, .int x] σ 2 9 (am_qG (sp_come A km l x) σ) := by
  have b7 := wf_np7 hA
  have hl9 := ly_89 hX.ly
  have bad : ∀ pc (lv : List (Nat × Value)), decode mX6_come.2.1 pc = .ok (.bipush (-2), 2) → decode mX6_come.2.1 (pc + 2) = .ok (.ireturn, 1) → (am_in km 60 && (am_in l 21 && am_sb x)) = false → am_Ev G mX6_come (am_R (D + 2) 2 9) 2 9 (am_qG (sp_come A km l x) σ) pc lv [] σ 0 0 := fun pc lv d1 d2 hf => by
    refine ev_bipush (v := (-2)) d1 (by decide) ?_
    refine ev_reti d2 rfl (Nat.zero_le _) (Nat.zero_le _) (am_qGi (B := A) ?_ hX (fun _ _ _ => rfl))
    unfold sp_come
    rw [hf]; rfl
  refine am_of moX6_come (Nat.le_of_ble_eq_true rfl) ?_
  show am_Ev G mX6_come (am_R (D + 2) 2 9) 2 9 (am_qG (sp_come A km l x) σ) 0 [(0, .ref 32), (1, .int km), (2, .int l), (3, .int x)] [] σ 0 0
  have bad20 := bad 20 [(0, .ref 32), (1, .int km), (2, .int l), (3, .int x)] dX6_come_20 dX6_come_22
  refine ev_iload_n dX6_come_0 rfl rfl ?_
  refine ev_if_lt (tgt := 20) dX6_come_1 (by decide) (fun c1 => bad20 (by rw [am_inF (by decide) (am_rgn (by decide) c1)]; rfl)) (fun c1 => ?_)
  refine ev_iload_n dX6_come_4 rfl rfl ?_
  refine ev_bipush (v := 60) dX6_come_5 (by decide) ?_
  refine ev_icmp_ge (tgt := 20) dX6_come_7 (by decide) (fun c2 => bad20 (by rw [am_inF (by decide) (am_rgm (by decide) c2)]; rfl)) (fun c2 => ?_)
  have hkm : am_in km 60 = true := (am_inR (by decide)).mpr (am_rg2 (c := 60) (by decide) c1 c2)
  refine ev_iload_n dX6_come_10 rfl rfl ?_
  refine ev_if_lt (tgt := 20) dX6_come_11 (by decide) (fun c3 => bad20 (by rw [am_inF (x := l) (by decide) (am_rgn (by decide) c3), hkm]; rfl)) (fun c3 => ?_)
  refine ev_iload_n dX6_come_14 rfl rfl ?_
  refine ev_bipush (v := 20) dX6_come_15 (by decide) ?_
  refine ev_icmp_le (tgt := 23) dX6_come_17 (by decide) (fun c4 => ?_) (fun c4 => bad20 (by rw [am_inF (x := l) (by decide) (am_rgm3 (c := 20) (by decide) (by decide) c4), hkm]; rfl))
  have hll : am_in l 21 = true := (am_inR (by decide)).mpr (am_rg3 (c := 20) (by decide) c3 c4)
  refine ev_iload_n dX6_come_23 rfl rfl ?_
  refine ev_callS (as := [.int x]) (st := []) dX6_come_24 mfX6_isTableOrNone lk_X6_122 (c_X6_isTableOrNone G D σ x) rfl rfl (Nat.le_of_ble_eq_true rfl) (am_hR (by omega) (by decide)) ⟨Nat.zero_le _, Nat.zero_le _⟩ ?_
  rintro _ _ (⟨hsb, rfl, rfl⟩ | ⟨hsb, rfl, rfl⟩)
  · have hx : am_sb x = true := am_sbR.mpr hsb
    refine ev_if_ne (tgt := 33) dX6_come_27 (by decide) (fun _ => ?_) (fun c => absurd c (by decide))
    refine ev_aload_n dX6_come_33 rfl rfl ?_
    refine ev_getI (v := nI (s_np A)) dX6_come_34 fl_X6_85 (ly_k hX.ly 32 rfl) (hX.f12.trans (wf_np hA)) ?_
    refine ev_bipush (v := 7) dX6_come_37 (by decide) ?_
    refine ev_icmp_lt (tgt := 45) dX6_come_39 (by decide) (fun c5 => ?_) (fun c5 => ?_)
    · have hn : s_np A < 7 := (nI_ltI (a := s_np A) (b := 7) (by omega) (by omega)).mp c5
      refine ev_aload_n dX6_come_45 rfl rfl ?_
      refine ev_getR (b := 33) dX6_come_46 fl_X6_11 (ly_k hX.ly 32 rfl) (ly_r hX.ly 0 rfl) ?_
      refine ev_aload_n dX6_come_49 rfl rfl ?_
      refine ev_getI (v := nI (s_np A)) dX6_come_50 fl_X6_85 (ly_k hX.ly 32 rfl) (hX.f12.trans (wf_np hA)) ?_
      refine ev_new (c := 1) (N := 5) (L := σ.1.length) dX6_come_53 (by decide) rfl cl_X6_9 am_ib1 am_in1 rfl (Nat.le_of_ble_eq_true rfl) (Nat.le_of_ble_eq_true rfl) ?_
      refine ev_dup dX6_come_56 rfl ?_
      refine ev_iload_n dX6_come_57 rfl rfl ?_
      refine ev_bipush (v := 10) dX6_come_58 (by decide) ?_
      refine ev_idiv (v := km / 10) dX6_come_60 (by decide) rfl ?_
      refine ev_iload_n dX6_come_61 rfl rfl ?_
      refine ev_bipush (v := 10) dX6_come_62 (by decide) ?_
      refine ev_irem (v := km - km / 10 * 10) dX6_come_64 (by decide) rfl ?_
      refine ev_iload_n dX6_come_65 rfl rfl ?_
      refine ev_iload_n dX6_come_66 rfl rfl ?_
      refine ev_callI (as := [.int (km / 10), .int (km - km / 10 * 10), .int l, .int x]) (st := [.ref σ.1.length, .int (nI (s_np A)), .ref 33]) dX6_come_67 mfX1_init lk_X6_125 (c_X1_init G D (am_nw σ 1 5) σ.1.length am_nwL _ _ l x) rfl rfl (Nat.le_of_ble_eq_true rfl) (am_hR (by omega) (by decide)) ⟨Nat.le_of_ble_eq_true rfl, Nat.le_of_ble_eq_true rfl⟩ ?_
      rintro _ τ ⟨rfl, hτ⟩
      have e1 : τ.1 = (am_nw (am_nw σ 1 5) 10 4).1 := by rw [hτ]; rfl
      have rI : ∀ a k, a < σ.1.length → τ.2.1 a k = σ.2.1 a k := fun a k ha => by
        rw [hτ]
        exact (am_ua (by omega)).trans ((am_ua (by omega)).trans ((am_ua (by omega)).trans ((am_ua (by omega)).trans ((am_nwI (c := 10) (n := 4) (by rw [am_nwN]; omega)).trans (am_nwI ha)))))
      have rR : ∀ a k, a < σ.1.length → τ.2.2 a k = σ.2.2 a k := fun a k ha => by
        rw [hτ]
        exact (am_ua (by omega)).trans ((am_nwR (c := 10) (n := 4) (by rw [am_nwN]; omega)).trans (am_nwR ha))
      have hy : ly_ok τ := ly_ext hX.ly (fun a k hk => by rw [e1]; exact am_nwK (am_nwK hk)) (fun a k h1 _ _ => rR a k (by omega))
      have hg : τ.1[σ.1.length]? = some (1, 5) := by rw [e1]; exact am_nwK am_nwL
      have h12 : τ.2.1 32 12 = nI (s_np A) := (rI 32 12 (by omega)).trans (hX.f12.trans (wf_np hA))
      refine ev_aast dX6_come_70 (ly_k hy 33 rfl) (by decide) hg (am_ixn hn (by decide)) ?_
      refine ev_aload_n dX6_come_71 rfl rfl ?_
      refine ev_dup dX6_come_72 rfl ?_
      refine ev_getI (v := nI (s_np A)) dX6_come_73 fl_X6_85 (ly_k hy 32 rfl) h12 ?_
      refine ev_iconst (v := 1) dX6_come_76 (by decide) ?_
      refine ev_iadd (v := nI (s_np A + 1)) dX6_come_77 (nI_1 _) ?_
      refine ev_putI dX6_come_78 fl_X6_85 rfl rfl (ly_k hy 32 rfl) ?_
      refine ev_aload_n dX6_come_81 rfl rfl ?_
      refine ev_getI (v := nI (s_np A + 1)) dX6_come_82 fl_X6_85 (ly_k hy 32 rfl) am_rs ?_
      refine ev_iconst (v := 1) dX6_come_85 (by decide) ?_
      refine ev_isub (v := nI (s_np A)) dX6_come_86 (nI_pred _) ?_
      refine ev_reti dX6_come_87 rfl (Nat.le_of_ble_eq_true rfl) (Nat.le_of_ble_eq_true rfl) (am_qGi (B := s_cm A (s_np A) km l x) ?_ ?_ (fun a h1 h2 => ?_))
      · unfold sp_come
        rw [hkm, hll, hx, if_pos (show (true && (true && true)) = true from rfl), if_neg (by omega)]
      · have z := hX.cm (km := km) (l := l) (x := x) hA hn
        rw [hτ]; exact z
      · funext k
        exact (am_un (by omega)).trans (rI a k (by omega))
    · have hn : s_np A = 7 := by
        have := (Nat.not_lt.mp (fun z => c5 ((nI_ltI (a := s_np A) (b := 7) (by omega) (by omega)).mpr z)))
        omega
      refine ev_bipush (v := (-4)) dX6_come_42 (by decide) ?_
      refine ev_reti dX6_come_44 rfl (Nat.zero_le _) (Nat.zero_le _) (am_qGi (B := A) ?_ hX (fun _ _ _ => rfl))
      unfold sp_come
      rw [hkm, hll, hx, if_pos (show (true && (true && true)) = true from rfl), if_pos hn]
  · refine ev_if_ne (tgt := 33) dX6_come_27 (by decide) (fun c => absurd rfl c) (fun _ => ?_)
    exact bad 30 _ dX6_come_30 dX6_come_32 (by rw [am_sbN hsb, hkm, hll]; rfl)
