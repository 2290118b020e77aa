/-! texts of the machine: their length and letters -/
theorem fl_sv : Cond.fieldLink RJ0 9 RJ0 "value" "[B" ∈ am_tbl := am_wd (i := 1310) (by decide +kernel) (by decide +kernel)
theorem fl_sc : Cond.fieldLink RJ0 15 RJ0 "coder" "B" ∈ am_tbl := am_wd (i := 1311) (by decide +kernel) (by decide +kernel)
theorem fl_ss : Cond.fieldLink RJ0 38 RJ0 "COMPACT_STRINGS" "Z" ∈ am_tbl := am_wd (i := 215) (by decide +kernel) (by decide +kernel)
theorem fl_sz : Cond.fieldLink RJ0 1053 "jdk/internal/util/Preconditions" "SIOOBE_FORMATTER" "Ljava/util/function/BiFunction;" ∈ am_tbl := am_wd (i := 231) (by decide +kernel) (by decide +kernel)
section
variable {G : am_G} {M : am_Mi} {R : Room} {kx nx : Nat} {Q : Option Value → am_M → Prop} {pc : Nat} {lv : List (Nat × Value)} {st : List Value} {σ : am_M} {k n : Nat}
theorem am_rv2 {G : am_G} {i : Nat} (hi : i < 13) : am_rv G (.ref (2 + i)) = .ref (G.2.2.2.2.1 (2 + i)) := by show Value.ref _ = _; rw [am_ad32 (by omega)]
theorem am_rv15 {G : am_G} {i : Nat} (hi : i < 13) : am_rv G (.ref (15 + i)) = .ref (G.2.2.2.2.1 (15 + i)) := by show Value.ref _ = _; rw [am_ad32 (by omega)]
theorem ev_i2c {x : Int32} {v : Int32} (hd : decode M.2.1 pc = .ok (.i2c, 1)) (hv : (x.toUInt32 % 65536).toInt32 = v) (h : am_Ev G M R kx nx Q (pc + 1) lv (.int v :: st) σ k n) : am_Ev G M R kx nx Q pc lv (.int x :: st) σ k n := fun p e s m as b mt c Z H lo ls C T hH hS hl => lv_i2c C.1 C.2.1 hd hv (h p e s m as b mt c Z H lo ls C T hH hS hl)
theorem ev_sv {i : Nat} (hi : i < 13) (hM : M.1.cls = RJ0) (hd : decode M.2.1 pc = .ok (.getfield 9, 3)) (h : am_Ev G M R kx nx Q (pc + 3) lv (.ref (15 + i) :: st) σ k n) : am_Ev G M R kx nx Q pc lv (.ref (2 + i) :: st) σ k n := by
  intro p e s m ar bl mt cc Z H lo ls C T hH hS hl
  obtain ⟨-, -, -, h6, -, -, ⟨c1, c2⟩, -⟩ := C.2.2.2.2.2.1
  have hh := h p e s m ar bl mt cc Z H lo ls C T hH hS hl
  rw [List.map_cons, am_rv15 hi] at hh
  rw [List.map_cons, am_rv2 hi]
  exact vk_getf C.1 C.2.1 (c1.1 i hi).2.2.1 hS (by rw [← hM]; exact C.2.2.2.1) (C.2.2.2.2.1 _ fl_sv) (fun _ h => h) hd hh
theorem ev_sc {i : Nat} (hi : i < 13) (hM : M.1.cls = RJ0) (hd : decode M.2.1 pc = .ok (.getfield 15, 3)) (h : am_Ev G M R kx nx Q (pc + 3) lv (.int 0 :: st) σ k n) : am_Ev G M R kx nx Q pc lv (.ref (2 + i) :: st) σ k n := by
  intro p e s m ar bl mt cc Z H lo ls C T hH hS hl
  obtain ⟨-, -, -, h6, -, -, ⟨c1, c2⟩, -⟩ := C.2.2.2.2.2.1
  have hh := h p e s m ar bl mt cc Z H lo ls C T hH hS hl
  rw [List.map_cons, am_rv2 hi]
  exact vk_getf C.1 C.2.1 (c1.1 i hi).2.1 hS (by rw [← hM]; exact C.2.2.2.1) (C.2.2.2.2.1 _ fl_sc) (fun _ h => h) hd hh
theorem ev_ss (hM : M.1.cls = RJ0) (hd : decode M.2.1 pc = .ok (.getstatic 38, 3)) (h : am_Ev G M R kx nx Q (pc + 3) lv (.int 1 :: st) σ k n) : am_Ev G M R kx nx Q pc lv st σ k n := by
  intro p e s m ar bl mt cc Z H lo ls C T hH hS hl
  obtain ⟨-, -, -, h6, -, -, -, d1, d2⟩ := C.2.2.2.2.2.1
  exact va_gets C.1 C.2.1 d1 hS (by rw [← hM]; exact C.2.2.2.1) (C.2.2.2.2.1 _ fl_ss) (fun _ h => h) hd (h p e s m ar bl mt cc Z H lo ls C T hH hS hl)
theorem ev_sz (hM : M.1.cls = RJ0) (hd : decode M.2.1 pc = .ok (.getstatic 1053, 3)) (h : am_Ev G M R kx nx Q (pc + 3) lv (.null :: st) σ k n) (h2 : am_Ev G M R kx nx Q (pc + 3) lv (.ref 28 :: st) σ k n) : am_Ev G M R kx nx Q pc lv st σ k n := by
  intro p e s m ar bl mt cc Z H lo ls C T hH hS hl
  obtain ⟨-, -, -, h6, -, -, -, d1, d2⟩ := C.2.2.2.2.2.1
  rcases d2 with d2 | d2
  · exact va_gets C.1 C.2.1 d2 hS (by rw [← hM]; exact C.2.2.2.1) (C.2.2.2.2.1 _ fl_sz) (fun _ h => h) hd (h p e s m ar bl mt cc Z H lo ls C T hH hS hl)
  · have hh := h2 p e s m ar bl mt cc Z H lo ls C T hH hS hl
    have ea : am_rv G (.ref 28) = .ref (G.2.2.2.2.1 28) := by show Value.ref _ = _; rw [am_ad32 (by decide)]
    rw [List.map_cons, ea] at hh
    exact va_gets C.1 C.2.1 d2 hS (by rw [← hM]; exact C.2.2.2.1) (C.2.2.2.2.1 _ fl_sz) (fun _ h => h) hd hh
theorem ev_sl {i : Nat} (hi : i < 13) {v : Int32} (hd : decode M.2.1 pc = .ok (.arraylength, 1)) (hv : nI (am_Sl.getD i 0) = v) (h : am_Ev G M R kx nx Q (pc + 1) lv (.int v :: st) σ k n) : am_Ev G M R kx nx Q pc lv (.ref (15 + i) :: st) σ k n := by
  intro p e s m ar bl mt cc Z H lo ls C T hH hS hl
  obtain ⟨-, -, -, h6, -, -, ⟨c1, c2⟩, -⟩ := C.2.2.2.2.2.1
  have hh := h p e s m ar bl mt cc Z H lo ls C T hH hS hl
  rw [List.map_cons, am_rv15 hi]
  exact va_tlen C.1 C.2.1 (c1.1 i hi).2.2.2 hS hv hd hh
theorem ev_sb {i : Nat} (hi : i < 13) {x : Int32} {j : Nat} {v : Int32} (hd : decode M.2.1 pc = .ok (.baload, 1)) (hx : am_ix x (am_Sl.getD i 0) j) (hv : (am_Sb.getD i []).getD j 0 = v) (h : am_Ev G M R kx nx Q (pc + 1) lv (.int v :: st) σ k n) : am_Ev G M R kx nx Q pc lv (.int x :: .ref (15 + i) :: st) σ k n := by
  intro p e s m ar bl mt cc Z H lo ls C T hH hS hl
  obtain ⟨-, -, -, h6, -, -, ⟨c1, c2⟩, -⟩ := C.2.2.2.2.2.1
  obtain ⟨hx, rfl⟩ := hx
  have hh := h p e s m ar bl mt cc Z H lo ls C T hH hS hl
  rw [List.map_cons, List.map_cons, am_rv15 hi]
  exact va_tb C.1 C.2.1 (c1.1 i hi).2.2.2 hS hx (by rw [hv]; rfl) hd hh
theorem ev_callT {M' : am_Mi} {D' kx' nx' np idx : Nat} {as st0 : List Value} {i : Nat} {Q' : Option Value → am_M → Prop} (hd : decode M.2.1 pc = .ok (.invokevirtual idx, 3)) (mf : am_mV M' np) (lk : Cond.methodLink M.1.cls idx M'.1 ∈ am_tbl) (hi : i < 13) (hcl : M'.1.cls = RJ0) (hM : am_Mt G D' M' (.ref (2 + i) :: as) σ kx' nx' Q') (hn : as.length = np) (hst : st0 = as.reverse ++ .ref (2 + i) :: st) (hroom : (st.map fun v => v.category).sum ≤ 8) (hR : D' + 1 ≤ R.frames ∧ 8 + (M'.2.2.1 + 11) + 64 * D' ≤ R.locals) (hcs : k + kx' ≤ R.cells ∧ n + nx' ≤ R.slots)
    (h : ∀ (v : Option Value) (σ' : am_M), Q' v σ' → am_Ev G M R kx nx Q (pc + 3) lv (v.toList ++ st) σ' (k + kx') (n + nx')) : am_Ev G M R kx nx Q pc lv st0 σ k n := by
  intro p e s m ar bl mt cc Z H lo ls C T hH hS hl
  subst hst
  have hts := C.2.2.2.2.1
  have hn2 : (as.map (am_rv G)).length = np := by rw [List.length_map]; exact hn
  obtain ⟨-, -, -, h6, -, -, ⟨c1, c2⟩, -⟩ := C.2.2.2.2.2.1
  have hrc : ∃ cell : Cell, H[am_ad G (2 + i)]? = some cell ∧ cell.vm.isStatics = false ∧ s.vm.findClass M'.1.cls = some cell.cls := by
    rw [hcl, am_ad32 (by omega)]
    exact vk_recv (i := i) (adK := fun i => G.2.2.2.2.1 (2 + i)) c1 hi hS
  refine am_back C T hS hl rfl (va_runV (As := as.map (am_rv G)) (rest := st.map (am_rv G)) (b := am_ad G (2 + i)) (C := M'.1.cls) ⟨C.1, C.2.1, C.2.2.1, C.2.2.2.1, hts⟩ hM (cwV np hts (am_gin4 ?_ mf.1.1) rfl rfl rfl ⟨rfl, mf.1.2.2.1⟩ hR) ⟨am_blind, hrc, am_pre C hH hS⟩ rfl hn2 hl.1 (by show List.map _ _ = _; rw [List.map_append, List.map_reverse]; rfl) (lv_room (am_rm hroom)) hd hcs) h
  intro w hw
  simp only [List.mem_cons, List.not_mem_nil, or_false] at hw
  rcases hw with rfl | rfl | rfl | rfl
  · exact lk
  · exact mf.2.1
  · exact mf.2.2
  · exact mf.1.2.1
end
theorem am_SL : ∀ i, i < 13 → am_Sl.getD i 0 = (am_Sb.getD i []).length ∧ am_Sl.getD i 0 < 64 ∧ ∀ b ∈ am_Sb.getD i [], ((b &&& 255).toUInt32 % 65536).toInt32 = b := by decide +kernel
theorem am_gm {l : List Int32} {k : Nat} (h : k < l.length) : l.getD k 0 ∈ l := by
  rw [List.getD_eq_getElem?_getD, List.getElem?_eq_getElem h]
  exact List.getElem_mem _
/-- a letter of a text -/
def am_sc (i k : Nat) : Int32 := (am_Sb.getD i []).getD k 0
theorem am_scc {i k : Nat} (hi : i < 13) (hk : k < am_Sl.getD i 0) : ((am_sc i k &&& 255).toUInt32 % 65536).toInt32 = am_sc i k := by
  obtain ⟨h1, -, h3⟩ := am_SL i hi
  refine h3 _ ?_
  exact am_gm (by omega)
theorem am_scc2 {i k : Nat} (hi : i < 13) (hk : k < am_Sl.getD i 0) : narrow .char (.int (am_sc i k)) = .int (am_sc i k) := by
  show Value.int (((am_sc i k).toUInt32 % 65536).toInt32) = _
  have h : ∀ i, i < 13 → ∀ b ∈ am_Sb.getD i [], (b.toUInt32 % 65536).toInt32 = b := by decide +kernel
  refine congrArg Value.int (h i hi _ ?_)
  obtain ⟨h1, -, -⟩ := am_SL i hi
  exact am_gm (by omega)
theorem c_coder (G : am_G) (D : Nat) (σ : am_M) (i : Nat) (hi : i < 13) : am_Mt G D mJ0_coder_7d493 [.ref (2 + i)] σ 0 0 (am_q (.int 0) σ) := by
  refine am_of moJ0_coder_7d493 (Nat.le_of_ble_eq_true rfl) ?_
  show am_Ev G mJ0_coder_7d493 (am_R D 0 0) 0 0 (am_q (.int 0) σ) 0 [(0, .ref (2 + i))] [] σ 0 0
  refine ev_ss rfl dJ0_coder_7d493_0 ?_
  refine ev_if_eq (tgt := 13) dJ0_coder_7d493_3 (by decide) (fun c => absurd c (by decide)) (fun _ => ?_)
  refine ev_aload_n dJ0_coder_7d493_6 rfl rfl ?_
  refine ev_sc hi rfl dJ0_coder_7d493_7 ?_
  refine ev_goto (tgt := 14) dJ0_coder_7d493_10 (by decide) ?_
  exact ev_ret (v := some (.int 0)) ⟨rfl, rfl⟩ (Nat.le_refl _) (Nat.le_refl _) ⟨dJ0_coder_7d493_14, .byte, rfl, rfl⟩
theorem c_isLatin1 (G : am_G) (D : Nat) (σ : am_M) (i : Nat) (hi : i < 13) : am_Mt G D mJ0_isLatin1_aae02 [.ref (2 + i)] σ 0 0 (am_q (.int 1) σ) := by
  refine am_of moJ0_isLatin1_aae02 (Nat.le_of_ble_eq_true rfl) ?_
  show am_Ev G mJ0_isLatin1_aae02 (am_R D 0 0) 0 0 (am_q (.int 1) σ) 0 [(0, .ref (2 + i))] [] σ 0 0
  refine ev_ss rfl dJ0_isLatin1_aae02_0 ?_
  refine ev_if_eq (tgt := 17) dJ0_isLatin1_aae02_3 (by decide) (fun c => absurd c (by decide)) (fun _ => ?_)
  refine ev_aload_n dJ0_isLatin1_aae02_6 rfl rfl ?_
  refine ev_sc hi rfl dJ0_isLatin1_aae02_7 ?_
  refine ev_if_ne (tgt := 17) dJ0_isLatin1_aae02_10 (by decide) (fun c => absurd rfl c) (fun _ => ?_)
  refine ev_iconst (v := 1) dJ0_isLatin1_aae02_13 (by decide) ?_
  refine ev_goto (tgt := 18) dJ0_isLatin1_aae02_14 (by decide) ?_
  exact ev_retz dJ0_isLatin1_aae02_18 rfl (Or.inr rfl) (Nat.le_refl _) (Nat.le_refl _) ⟨rfl, rfl⟩
theorem c_length (G : am_G) (D : Nat) (σ : am_M) (i : Nat) (hi : i < 13) : am_Mt G (D + 1) mJ0_length_8abf5 [.ref (2 + i)] σ 0 0 (am_q (.int (nI (am_Sl.getD i 0))) σ) := by
  have h64 := (am_SL i hi).2.1
  refine am_of moJ0_length_8abf5 (Nat.le_of_ble_eq_true rfl) ?_
  show am_Ev G mJ0_length_8abf5 (am_R (D + 1) 0 0) 0 0 (am_q (.int (nI (am_Sl.getD i 0))) σ) 0 [(0, .ref (2 + i))] [] σ 0 0
  refine ev_aload_n dJ0_length_8abf5_0 rfl rfl ?_
  refine ev_sv hi rfl dJ0_length_8abf5_1 ?_
  refine ev_sl hi dJ0_length_8abf5_4 rfl ?_
  refine ev_aload_n dJ0_length_8abf5_5 rfl rfl ?_
  refine ev_callT (as := []) (st := [.int (nI (am_Sl.getD i 0))]) dJ0_length_8abf5_6 mfJ0_coder_7d493 lk_J0_335 hi rfl (c_coder G D σ i hi) rfl rfl (Nat.le_of_ble_eq_true rfl) (am_hR (by omega) (by decide)) ⟨Nat.le_refl _, Nat.le_refl _⟩ ?_
  rintro _ _ ⟨rfl, rfl⟩
  have e : ∀ x : Int32, x >>> ((0 : Int32) &&& 31) = x := fun x => by
    rw [show (0 : Int32) &&& 31 = 0 by decide]
    exact Int32.shiftRight_zero
  refine ev_ishr (v := nI (am_Sl.getD i 0)) dJ0_length_8abf5_9 (e _) ?_
  exact ev_reti dJ0_length_8abf5_10 rfl (Nat.le_refl _) (Nat.le_refl _) ⟨rfl, rfl⟩
theorem c_check3 (G : am_G) (D : Nat) (σ : am_M) (k n : Nat) (hk : k < n) (hn : n < 2 ^ 31) (f : Value) (hf : f = .null ∨ f = .ref 28) : am_Mt G D mJ3_checkIndex_8e157 [.int (nI k), .int (nI n), f] σ 0 0 (am_q (.int (nI k)) σ) := by
  refine am_of moJ3_checkIndex_8e157 (by rcases hf with rfl | rfl <;> exact Nat.le_of_ble_eq_true rfl) ?_
  have e : lv_args 0 [.int (nI k), .int (nI n), f] = [(0, .int (nI k)), (1, .int (nI n)), (2, f)] := by rcases hf with rfl | rfl <;> rfl
  rw [e]
  show am_Ev G mJ3_checkIndex_8e157 (am_R D 0 0) 0 0 (am_q (.int (nI k)) σ) 0 [(0, .int (nI k)), (1, .int (nI n)), (2, f)] [] σ 0 0
  refine ev_iload_n dJ3_checkIndex_8e157_0 rfl rfl ?_
  refine ev_if_lt (tgt := 9) dJ3_checkIndex_8e157_1 (by decide) (fun c => absurd c (nI_pos (by omega))) (fun _ => ?_)
  refine ev_iload_n dJ3_checkIndex_8e157_4 rfl rfl ?_
  refine ev_iload_n dJ3_checkIndex_8e157_5 rfl rfl ?_
  refine ev_icmp_lt (tgt := 16) dJ3_checkIndex_8e157_6 (by decide) (fun _ => ?_) (fun c => absurd (nI_lt hk hn) c)
  refine ev_iload_n dJ3_checkIndex_8e157_16 rfl rfl ?_
  exact ev_reti dJ3_checkIndex_8e157_17 rfl (Nat.le_refl _) (Nat.le_refl _) ⟨rfl, rfl⟩
theorem c_check2 (G : am_G) (D : Nat) (σ : am_M) (k n : Nat) (hk : k < n) (hn : n < 2 ^ 31) : am_Mt G (D + 1) mJ0_checkIndex_df160 [.int (nI k), .int (nI n)] σ 0 0 (am_qv σ) := by
  refine am_of moJ0_checkIndex_df160 (Nat.le_of_ble_eq_true rfl) ?_
  show am_Ev G mJ0_checkIndex_df160 (am_R (D + 1) 0 0) 0 0 (am_qv σ) 0 [(0, .int (nI k)), (1, .int (nI n))] [] σ 0 0
  refine ev_iload_n dJ0_checkIndex_df160_0 rfl rfl ?_
  refine ev_iload_n dJ0_checkIndex_df160_1 rfl rfl ?_
  refine ev_sz rfl dJ0_checkIndex_df160_2 ?_ ?_
  · refine ev_callS (as := [.int (nI k), .int (nI n), .null]) (st := []) dJ0_checkIndex_df160_5 mfJ3_checkIndex_8e157 lk_J0_1059 (c_check3 G D σ k n hk hn _ (Or.inl rfl)) rfl rfl (Nat.le_of_ble_eq_true rfl) (am_hR (by omega) (by decide)) ⟨Nat.le_refl _, Nat.le_refl _⟩ ?_
    rintro _ _ ⟨rfl, rfl⟩
    refine ev_pop dJ0_checkIndex_df160_8 rfl ?_
    exact ev_retv dJ0_checkIndex_df160_9 rfl (Nat.le_refl _) (Nat.le_refl _) ⟨rfl, rfl⟩
  · refine ev_callS (as := [.int (nI k), .int (nI n), .ref 28]) (st := []) dJ0_checkIndex_df160_5 mfJ3_checkIndex_8e157 lk_J0_1059 (c_check3 G D σ k n hk hn _ (Or.inr rfl)) rfl rfl (Nat.le_of_ble_eq_true rfl) (am_hR (by omega) (by decide)) ⟨Nat.le_refl _, Nat.le_refl _⟩ ?_
    rintro _ _ ⟨rfl, rfl⟩
    refine ev_pop dJ0_checkIndex_df160_8 rfl ?_
    exact ev_retv dJ0_checkIndex_df160_9 rfl (Nat.le_refl _) (Nat.le_refl _) ⟨rfl, rfl⟩
theorem c_charAt1 (G : am_G) (D : Nat) (σ : am_M) (i k : Nat) (hi : i < 13) (hk : k < am_Sl.getD i 0) : am_Mt G (D + 2) mJ1_charAt_3b067 [.ref (15 + i), .int (nI k)] σ 0 0 (am_q (.int (am_sc i k)) σ) := by
  have h64 := (am_SL i hi).2.1
  refine am_of moJ1_charAt_3b067 (Nat.le_of_ble_eq_true rfl) ?_
  show am_Ev G mJ1_charAt_3b067 (am_R (D + 2) 0 0) 0 0 (am_q (.int (am_sc i k)) σ) 0 [(0, .ref (15 + i)), (1, .int (nI k))] [] σ 0 0
  refine ev_iload_n dJ1_charAt_3b067_0 rfl rfl ?_
  refine ev_aload_n dJ1_charAt_3b067_1 rfl rfl ?_
  refine ev_sl hi dJ1_charAt_3b067_2 rfl ?_
  refine ev_callS (as := [.int (nI k), .int (nI (am_Sl.getD i 0))]) (st := []) dJ1_charAt_3b067_3 mfJ0_checkIndex_df160 lk_J1_9 (c_check2 G D σ k _ hk (by omega)) rfl rfl (Nat.le_of_ble_eq_true rfl) (am_hR (by omega) (by decide)) ⟨Nat.le_refl _, Nat.le_refl _⟩ ?_
  rintro _ _ ⟨rfl, rfl⟩
  refine ev_aload_n dJ1_charAt_3b067_6 rfl rfl ?_
  refine ev_iload_n dJ1_charAt_3b067_7 rfl rfl ?_
  refine ev_sb hi (j := k) (v := am_sc i k) dJ1_charAt_3b067_8 (am_ixn hk (by omega)) rfl ?_
  refine ev_sipush (v := 255) dJ1_charAt_3b067_9 (by decide) ?_
  refine ev_iand (v := am_sc i k &&& 255) dJ1_charAt_3b067_12 rfl ?_
  refine ev_i2c (v := am_sc i k) dJ1_charAt_3b067_13 (am_scc hi hk) ?_
  refine ev_ret (v := some (.int (am_sc i k))) ⟨rfl, rfl⟩ (Nat.le_refl _) (Nat.le_refl _) ⟨dJ1_charAt_3b067_14, .char, rfl, am_scc2 hi hk⟩
theorem c_charAt (G : am_G) (D : Nat) (σ : am_M) (i k : Nat) (hi : i < 13) (hk : k < am_Sl.getD i 0) : am_Mt G (D + 3) mJ0_charAt_5068e [.ref (2 + i), .int (nI k)] σ 0 0 (am_q (.int (am_sc i k)) σ) := by
  have h64 := (am_SL i hi).2.1
  refine am_of moJ0_charAt_5068e (Nat.le_of_ble_eq_true rfl) ?_
  show am_Ev G mJ0_charAt_5068e (am_R (D + 3) 0 0) 0 0 (am_q (.int (am_sc i k)) σ) 0 [(0, .ref (2 + i)), (1, .int (nI k))] [] σ 0 0
  refine ev_aload_n dJ0_charAt_5068e_0 rfl rfl ?_
  refine ev_callT (as := []) (st := []) dJ0_charAt_5068e_1 mfJ0_isLatin1_aae02 lk_J0_492 hi rfl (c_isLatin1 G (D + 2) σ i hi) rfl rfl (Nat.le_of_ble_eq_true rfl) (am_hR (by omega) (by decide)) ⟨Nat.le_refl _, Nat.le_refl _⟩ ?_
  rintro _ _ ⟨rfl, rfl⟩
  refine ev_if_eq (tgt := 16) dJ0_charAt_5068e_4 (by decide) (fun c => absurd c (by decide)) (fun _ => ?_)
  refine ev_aload_n dJ0_charAt_5068e_7 rfl rfl ?_
  refine ev_sv hi rfl dJ0_charAt_5068e_8 ?_
  refine ev_iload_n dJ0_charAt_5068e_11 rfl rfl ?_
  refine ev_callS (as := [.ref (15 + i), .int (nI k)]) (st := []) dJ0_charAt_5068e_12 mfJ1_charAt_3b067 lk_J0_495 (c_charAt1 G D σ i k hi hk) rfl rfl (Nat.le_of_ble_eq_true rfl) (am_hR (by omega) (by decide)) ⟨Nat.le_refl _, Nat.le_refl _⟩ ?_
  rintro _ _ ⟨rfl, rfl⟩
  refine ev_ret (v := some (.int (am_sc i k))) ⟨rfl, rfl⟩ (Nat.le_refl _) (Nat.le_refl _) ⟨dJ0_charAt_5068e_15, .char, rfl, am_scc2 hi hk⟩
