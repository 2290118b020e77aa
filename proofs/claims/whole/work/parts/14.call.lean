/-! calls; the given cells; a contract out of a run -/
theorem am_gin {M' : am_Mi} (h : am_code M' ∈ am_tbl) : GoodIn am_tbl (am_code M' :: am_tbl) := by
  intro w hw
  rcases List.mem_cons.mp hw with rfl | hw
  · exact ⟨h, good_of_word (am_good _ h)⟩
  · exact ⟨hw, good_of_word (am_good _ hw)⟩
theorem am_gin4 {M' : am_Mi} {l : List Cond} (hl : ∀ w ∈ l, w ∈ am_tbl) (h : am_code M' ∈ am_tbl) : GoodIn am_tbl (l ++ (am_code M' :: am_tbl)) := by
  intro w hw
  rcases List.mem_append.mp hw with hw | hw
  · exact ⟨hl w hw, good_of_word (am_good _ (hl w hw))⟩
  · exact am_gin h w hw
theorem am_blind {G : am_G} {as : List Value} {σ : am_M} : FrameBlind (am_Pc G as σ) := fun _ _ _ _ q => ⟨q.1, q.2.1, q.2.2.call⟩
theorem am_pre {G : am_G} {M : am_Mi} {p : Program} {s : State} {m : MethodId} {args : Array Value} {meth : Method} {c : Code} {as : List Value} {σ : am_M} {H : Heap} {locs : List Loc} (C : am_Cx G M p s m args meth c) (hH : am_H G σ H) (hS : va_S (am_A G) s.heap H locs) : ∀ U : State, U.heap = H → s.WarmedH U.vm → am_Pc G as σ (as.map (am_rv G)).toArray U := by
  intro U hU hW
  refine ⟨rfl, by rw [hU]; exact hH, C.2.2.2.2.2.1.warm hW (by rw [hU]; exact hS.1) (fun q h1 h2 => by rw [hU]; exact hS.2.1 q h1 h2)⟩
theorem am_rm {G : am_G} {st : List Value} (h : (st.map fun v => v.category).sum ≤ 8) : ((st.map (am_rv G)).map fun v => v.category).sum ≤ 8 := by
  have e : ((st.map (am_rv G)).map fun v => v.category) = st.map fun v => v.category := by
    rw [List.map_map]
    congr 1
    funext v
    exact am_rvc v
  rw [e]
  exact h
section
variable {G : am_G} {M : am_Mi} {R : Room} {kx nx : Nat} {Q : Option Value → am_M → Prop} {pc : Nat} {lv lv' : List (Nat × Value)} {st : List Value} {σ : am_M} {k n : Nat}
theorem am_back {p : Program} {e : Env} {s : State} {m : MethodId} {as : Array Value} {b : List Frame} {mt : Method} {cc : Code} {Z : State → Prop} {H : Heap} {lo : List Loc} {ls : Array Slot} {Q' : Option Value → am_M → Prop} {kx' nx' : Nat} {a : Array Value} {rest : List Value} {st0 : List Value}
    (C : am_Cx G M p s m as mt cc) (T : am_Rt G M R kx nx Q p e s m as b mt cc Z) (hS : va_S (am_A G) s.heap H lo) (hl : lv_has ls M.2.2.1 (am_rl G lv)) (hrest : rest = st.map (am_rv G))
    (hr : va_Run p G.1 e R s m as b mt cc H lo k n kx' nx' (F0 m pc ls st0) rest (am_Qc G Q' a) (am_A G))
    (h : ∀ (v : Option Value) (σ' : am_M), Q' v σ' → am_Ev G M R kx nx Q (pc + 3) lv (v.toList ++ st) σ' (k + kx') (n + nx')) : W p G.1 e R s m as b mt cc H lo k n Z (F0 m pc ls st0) := by
  intro T0 hT X
  obtain ⟨v, s0, t, T', L, h0, X', hL, e1, e2, ⟨⟨w, σ', hv, hq, hh⟩, hz, hk⟩, stp⟩ := hr T0 hT X
  cases hv
  rw [h0] at hz hk
  have hS' : va_S (am_A G) s.heap T'.heap (lo ++ L) := by
    refine ⟨Nat.le_trans hS.1 (by rw [e1]; exact hz), fun q h1 h2 => ?_, fun q hq => ?_⟩
    · rw [e1, hk q (Nat.lt_of_lt_of_le h1 hS.1) h2]
      exact hS.2.1 q h1 h2
    · rcases List.mem_append.mp hq with g | g
      · exact hS.2.2 q g
      · exact hL q g
  obtain ⟨t2, a1, b1⟩ := h w σ' hq p e s m as b mt cc Z T'.heap (lo ++ L) ls C T (by rw [e1]; exact hh) hS' hl T' rfl X'
  refine ⟨t2, stp t2 ?_, b1⟩
  have es : ((w.map (am_rv G)).toList ++ rest) = (w.toList ++ st).map (am_rv G) := by
    subst hrest
    cases w <;> rfl
  rw [es]
  exact a1
theorem ev_callV {M' : am_Mi} {D' kx' nx' np idx : Nat} {as st0 : List Value} {b : Nat} {Q' : Option Value → am_M → Prop} (hd : decode M.2.1 pc = .ok (.invokevirtual idx, 3)) (mf : am_mV M' np) {c N : Nat} (lk : Cond.methodLink M.1.cls idx M'.1 ∈ am_tbl) (hk : σ.1[b]? = some (c, N)) (hc : c < 8) (hcl : (am_cl c).1 = M'.1.cls) (hM : am_Mt G D' M' (.ref b :: as) σ kx' nx' Q') (hn : as.length = np) (hst : st0 = as.reverse ++ .ref b :: st) (hroom : (st.map fun v => v.category).sum ≤ 8) (hR : D' + 1 ≤ R.frames ∧ 8 + (M'.2.2.1 + 11) + 64 * D' ≤ R.locals) (hcs : k + kx' ≤ R.cells ∧ n + nx' ≤ R.slots)
    (h : ∀ (v : Option Value) (σ' : am_M), Q' v σ' → am_Ev G M R kx nx Q (pc + 3) lv (v.toList ++ st) σ' (k + kx') (n + nx')) : am_Ev G M R kx nx Q pc lv st0 σ k n := by
  intro p e s m ar bl mt cc Z H lo ls C T hH hS hl
  subst hst
  have hts := C.2.2.2.2.1
  have hn2 : (as.map (am_rv G)).length = np := by rw [List.length_map]; exact hn
  have h32 := am_32 hH hk (by omega)
  have hg := am_wg (G := G) h32 hk
  rw [am_eo hc] at hg
  have hrc := va_recv C.2.2.2.2.2.1.1 hH.2.2.2 (am_vw hc) hg
  rw [hcl] at hrc
  refine am_back C T hS hl rfl (va_runV (As := as.map (am_rv G)) (rest := st.map (am_rv G)) (b := am_ad G b) (C := M'.1.cls) ⟨C.1, C.2.1, C.2.2.1, C.2.2.2.1, hts⟩ hM (cwV np hts (am_gin4 ?_ mf.1.1) rfl rfl rfl ⟨rfl, mf.1.2.2.1⟩ hR) ⟨am_blind, hrc, am_pre C hH hS⟩ rfl hn2 hl.1 (by show List.map _ _ = _; rw [List.map_append, List.map_reverse]; rfl) (lv_room (am_rm hroom)) hd hcs) h
  intro w hw
  simp only [List.mem_cons, List.not_mem_nil, or_false] at hw
  rcases hw with rfl | rfl | rfl | rfl
  · exact lk
  · exact mf.2.1
  · exact mf.2.2
  · exact mf.1.2.1
theorem ev_callS {M' : am_Mi} {D' kx' nx' np idx : Nat} {as st0 : List Value} {Q' : Option Value → am_M → Prop} (hd : decode M.2.1 pc = .ok (.invokestatic idx, 3)) (mf : am_mS M' np) (lk : Cond.methodLink M.1.cls idx M'.1 ∈ am_tbl) (hM : am_Mt G D' M' as σ kx' nx' Q') (hn : as.length = np) (hst : st0 = as.reverse ++ st) (hroom : (st.map fun v => v.category).sum ≤ 8) (hR : D' + 1 ≤ R.frames ∧ 8 + (M'.2.2.1 + 11) + 64 * D' ≤ R.locals) (hcs : k + kx' ≤ R.cells ∧ n + nx' ≤ R.slots)
    (h : ∀ (v : Option Value) (σ' : am_M), Q' v σ' → am_Ev G M R kx nx Q (pc + 3) lv (v.toList ++ st) σ' (k + kx') (n + nx')) : am_Ev G M R kx nx Q pc lv st0 σ k n := by
  intro p e s m ar bl mt cc Z H lo ls C T hH hS hl
  subst hst
  have hts := C.2.2.2.2.1
  have hn2 : (as.map (am_rv G)).length = np := by rw [List.length_map]; exact hn
  refine am_back C T hS hl rfl (va_runS (As := as.map (am_rv G)) (rest := st.map (am_rv G)) ⟨C.1, C.2.1, C.2.2.1, C.2.2.2.1, hts⟩ hM (va_cwS np hts (am_gin4 ?_ mf.1.1) rfl rfl rfl mf.1.2.2.1 hR) ⟨am_blind, am_pre C hH hS⟩ rfl hn2 hl.1 (by show List.map _ _ = _; rw [List.map_append, List.map_reverse]) (lv_room (am_rm hroom)) hd hcs) h
  intro w hw
  simp only [List.mem_cons, List.not_mem_nil, or_false] at hw
  rcases hw with rfl | rfl | rfl
  · exact lk
  · exact mf.2
  · exact mf.1.2.1
theorem ev_callSN {M' : am_Mi} {D' kx' nx' np idx : Nat} {as st0 : List Value} {Q' : Option Value → am_M → Prop} (hd : decode M.2.1 pc = .ok (.invokestatic idx, 3)) (mf : am_mS M' np) {host : String} (lk : Cond.methodLinkNest M.1.cls idx M'.1 host ∈ am_nest) (hM : am_Mt G D' M' as σ kx' nx' Q') (hn : as.length = np) (hst : st0 = as.reverse ++ st) (hroom : (st.map fun v => v.category).sum ≤ 8) (hR : D' + 1 ≤ R.frames ∧ 8 + (M'.2.2.1 + 11) + 64 * D' ≤ R.locals) (hcs : k + kx' ≤ R.cells ∧ n + nx' ≤ R.slots)
    (h : ∀ (v : Option Value) (σ' : am_M), Q' v σ' → am_Ev G M R kx nx Q (pc + 3) lv (v.toList ++ st) σ' (k + kx') (n + nx')) : am_Ev G M R kx nx Q pc lv st0 σ k n := by
  intro p e s m ar bl mt cc Z H lo ls C T hH hS hl
  subst hst
  have hts := C.2.2.2.2.1
  have hn2 : (as.map (am_rv G)).length = np := by rw [List.length_map]; exact hn
  exact am_back C T hS hl rfl (va_runSN (As := as.map (am_rv G)) (rest := st.map (am_rv G)) ⟨C.1, C.2.1, C.2.2.1, C.2.2.2.1, hts⟩ hM ⟨va_cnB np hts (am_gin mf.1.1) rfl rfl rfl (C.2.2.2.2.2.1.2.1 _ lk) (hts _ mf.1.2.1) mf.1.2.2.1 hR, hts _ mf.2, trivial⟩ ⟨am_blind, am_pre C hH hS⟩ rfl hn2 hl.1 (by show List.map _ _ = _; rw [List.map_append, List.map_reverse]) (lv_room (am_rm hroom)) hd hcs) h
theorem ev_callI {M' : am_Mi} {D' kx' nx' np idx : Nat} {as st0 : List Value} {b : Nat} {Q' : Option Value → am_M → Prop} (hd : decode M.2.1 pc = .ok (.invokespecial idx, 3)) (mf : am_mI M' np) (lk : Cond.methodLink M.1.cls idx M'.1 ∈ am_tbl) (hM : am_Mt G D' M' (.ref b :: as) σ kx' nx' Q') (hn : as.length = np) (hst : st0 = as.reverse ++ .ref b :: st) (hroom : (st.map fun v => v.category).sum ≤ 8) (hR : D' + 1 ≤ R.frames ∧ 8 + (M'.2.2.1 + 11) + 64 * D' ≤ R.locals) (hcs : k + kx' ≤ R.cells ∧ n + nx' ≤ R.slots)
    (h : ∀ (v : Option Value) (σ' : am_M), Q' v σ' → am_Ev G M R kx nx Q (pc + 3) lv (v.toList ++ st) σ' (k + kx') (n + nx')) : am_Ev G M R kx nx Q pc lv st0 σ k n := by
  intro p e s m ar bl mt cc Z H lo ls C T hH hS hl
  subst hst
  have hts := C.2.2.2.2.1
  have hn2 : (as.map (am_rv G)).length = np := by rw [List.length_map]; exact hn
  obtain ⟨y, by', mL, rt⟩ := M'
  obtain ⟨m1, m2, m3, m4⟩ := mf
  cases m4
  exact am_back C T hS hl rfl (va_runI (As := as.map (am_rv G)) (rest := st.map (am_rv G)) (b := am_ad G b) ⟨C.1, C.2.1, C.2.2.1, C.2.2.2.1, hts⟩ hM (cwI np hts (am_gin m1.1) rfl rfl rfl (hts _ m1.2.1) (hts _ lk) (hts _ m2) m3 m1.2.2.1 hR) ⟨am_blind, am_pre C hH hS⟩ rfl hn2 hl.1 (by show List.map _ _ = _; rw [List.map_append, List.map_reverse]; rfl) (lv_room (am_rm hroom)) hd hcs) h
theorem ev_callIN {M' : am_Mi} {D' kx' nx' np idx : Nat} {as st0 : List Value} {b : Nat} {Q' : Option Value → am_M → Prop} (hd : decode M.2.1 pc = .ok (.invokespecial idx, 3)) (mf : am_mI M' np) {host : String} (lk : Cond.methodLinkNest M.1.cls idx M'.1 host ∈ am_nest) (hM : am_Mt G D' M' (.ref b :: as) σ kx' nx' Q') (hn : as.length = np) (hst : st0 = as.reverse ++ .ref b :: st) (hroom : (st.map fun v => v.category).sum ≤ 8) (hR : D' + 1 ≤ R.frames ∧ 8 + (M'.2.2.1 + 11) + 64 * D' ≤ R.locals) (hcs : k + kx' ≤ R.cells ∧ n + nx' ≤ R.slots)
    (h : ∀ (v : Option Value) (σ' : am_M), Q' v σ' → am_Ev G M R kx nx Q (pc + 3) lv (v.toList ++ st) σ' (k + kx') (n + nx')) : am_Ev G M R kx nx Q pc lv st0 σ k n := by
  intro p e s m ar bl mt cc Z H lo ls C T hH hS hl
  subst hst
  have hts := C.2.2.2.2.1
  have hn2 : (as.map (am_rv G)).length = np := by rw [List.length_map]; exact hn
  obtain ⟨y, by', mL, rt⟩ := M'
  obtain ⟨m1, m2, m3, m4⟩ := mf
  cases m4
  exact am_back C T hS hl rfl (va_runIN (As := as.map (am_rv G)) (rest := st.map (am_rv G)) (b := am_ad G b) ⟨C.1, C.2.1, C.2.2.1, C.2.2.2.1, hts⟩ hM ⟨va_cnB np hts (am_gin m1.1) rfl rfl rfl (C.2.2.2.2.2.1.2.1 _ lk) (hts _ m1.2.1) m1.2.2.1 hR, m3, hts _ m2⟩ ⟨am_blind, am_pre C hH hS⟩ rfl hn2 hl.1 (by show List.map _ _ = _; rw [List.map_append, List.map_reverse]; rfl) (lv_room (am_rm hroom)) hd hcs) h
theorem ev_obj {idx a : Nat} (hd : decode M.2.1 pc = .ok (.invokespecial idx, 3)) (lk : Cond.methodLink M.1.cls idx Lib.objectInit ∈ am_tbl) (hroom : (st.map fun v => v.category).sum ≤ 8) (hR : 1 ≤ R.frames ∧ 20 ≤ R.locals) (h : am_Ev G M R kx nx Q (pc + 3) lv st σ k n) : am_Ev G M R kx nx Q pc lv (.ref a :: st) σ k n := by
  intro p e s m ar bl mt cc Z H lo ls C T hH hS hl
  have hts := C.2.2.2.2.1
  have hr := am_rm (G := G) hroom
  exact W.objInit C.1 C.2.1 C.2.2.2.1 (hts _ lk) (hts _ am_oi) (hts _ am_oc) rfl (by show ls.size = _; rw [hl.1]; exact C.2.2.1.symm) rfl hd hR.1 (by show 2 * 0 + _ + 12 ≤ _; omega) (h p e s m ar bl mt cc Z H lo ls C T hH hS hl)
/-! the given cells -/
theorem am_ad32 {i : Nat} (h : i < 32) : am_ad G i = G.2.2.2.2.1 i := if_pos h
theorem ev_sld {x : Int32} {j : Nat} {v : Int32} (hd : decode M.2.1 pc = .ok (.iaload, 1)) (hi : am_ix x G.2.2.2.2.2.1 j) (hv : G.2.2.2.2.2.2 j = v) (h : am_Ev G M R kx nx Q (pc + 1) lv (.int v :: st) σ k n) : am_Ev G M R kx nx Q pc lv (.int x :: .ref 0 :: st) σ k n := by
  intro p e s m ar bl mt cc Z H lo ls C T hH hS hl
  obtain ⟨hi, rfl⟩ := hi
  subst hv
  obtain ⟨-, -, -, h6, ⟨a1, a2⟩, -⟩ := C.2.2.2.2.2.1
  exact va_sld C.1 C.2.1 a1 (Nat.lt_of_lt_of_le (Nat.not_le.mp a2) h6) a2 hS hi hd (h p e s m ar bl mt cc Z H lo ls C T hH hS hl)
theorem ev_slen {v : Int32} (hd : decode M.2.1 pc = .ok (.arraylength, 1)) (hv : Int32.ofNat G.2.2.2.2.2.1 = v) (h : am_Ev G M R kx nx Q (pc + 1) lv (.int v :: st) σ k n) : am_Ev G M R kx nx Q pc lv (.ref 0 :: st) σ k n := by
  intro p e s m ar bl mt cc Z H lo ls C T hH hS hl
  subst hv
  obtain ⟨-, -, -, h6, ⟨a1, a2⟩, -⟩ := C.2.2.2.2.2.1
  exact va_slen C.1 C.2.1 a1 (Nat.lt_of_lt_of_le (Nat.not_le.mp a2) h6) a2 hS hd (h p e s m ar bl mt cc Z H lo ls C T hH hS hl)
theorem ev_ka (hM : M.1.cls = RX1) (hd : decode M.2.1 pc = .ok (.getstatic 28, 3)) (h : am_Ev G M R kx nx Q (pc + 3) lv (.ref 1 :: st) σ k n) : am_Ev G M R kx nx Q pc lv st σ k n := by
  intro p e s m ar bl mt cc Z H lo ls C T hH hS hl
  obtain ⟨-, -, -, h6, -, ⟨b1, b2⟩, -⟩ := C.2.2.2.2.2.1
  exact va_gets C.1 C.2.1 b1 hS (by rw [← hM]; exact C.2.2.2.1) (C.2.2.2.2.1 _ fl_ka) (fun _ h => h) hd (h p e s m ar bl mt cc Z H lo ls C T hH hS hl)
theorem ev_kald {x : Int32} {j : Nat} {v : Int32} (hd : decode M.2.1 pc = .ok (.iaload, 1)) (hi : am_ix x 6 j) (hv : am_ka j = v) (h : am_Ev G M R kx nx Q (pc + 1) lv (.int v :: st) σ k n) : am_Ev G M R kx nx Q pc lv (.int x :: .ref 1 :: st) σ k n := by
  intro p e s m ar bl mt cc Z H lo ls C T hH hS hl
  obtain ⟨hi, rfl⟩ := hi
  subst hv
  obtain ⟨-, -, -, h6, -, ⟨b1, b2⟩, -⟩ := C.2.2.2.2.2.1
  exact va_ti C.1 C.2.1 b2 hS hi rfl hd (h p e s m ar bl mt cc Z H lo ls C T hH hS hl)
theorem ev_ldcS {idx i : Nat} {t : String} (hd : decode M.2.1 pc = .ok (.ldc idx, 2)) (hi : am_So[i]? = some (M.1.cls, idx, t)) (h : am_Ev G M R kx nx Q (pc + 2) lv (.ref (2 + i) :: st) σ k n) : am_Ev G M R kx nx Q pc lv st σ k n := by
  intro p e s m ar bl mt cc Z H lo ls C T hH hS hl
  have hi2 : i < 13 := (List.getElem?_eq_some_iff.mp hi).1
  obtain ⟨-, -, -, h6, -, -, ⟨c1, c2⟩, -⟩ := C.2.2.2.2.2.1
  have hh := h p e s m ar bl mt cc Z H lo ls C T hH hS hl
  have ea : am_rv G (.ref (2 + i)) = .ref (G.2.2.2.2.1 (2 + i)) := by show Value.ref _ = _; rw [am_ad32 (by omega)]
  rw [List.map_cons, ea] at hh
  exact va_ldcS C.1 C.2.1 C.2.2.2.1 (c2 i _ _ _ hi) hd hh
theorem ev_max {idx : Nat} {x y v : Int32} (hd : decode M.2.1 pc = .ok (.invokestatic idx, 3)) (lk : Cond.methodLink M.1.cls idx Lib.Math.max.name ∈ am_tbl) (hv : (if x < y then y else x) = v) (hroom : (st.map fun v => v.category).sum ≤ 8) (hR : 1 ≤ R.frames ∧ 21 ≤ R.locals) (hcs : k ≤ R.cells ∧ n ≤ R.slots) (h : am_Ev G M R kx nx Q (pc + 3) lv (.int v :: st) σ k n) : am_Ev G M R kx nx Q pc lv (.int y :: .int x :: st) σ k n := by
  intro p e s m ar bl mt cc Z H lo ls C T hH hS hl
  have hts := C.2.2.2.2.1
  have hr := am_rm (G := G) hroom
  subst hv
  exact va_mmax C.1 C.2.1 (by rw [hl.1]; exact C.2.2.1) C.2.2.2.1 (hts _ lk) (hts _ am_mx1) (hts _ am_mx0) (hts _ am_mx2) hR.1 (by omega) hcs.1 hcs.2 hd (h p e s m ar bl mt cc Z H lo ls C T hH hS hl)
theorem ev_min {idx : Nat} {x y v : Int32} (hd : decode M.2.1 pc = .ok (.invokestatic idx, 3)) (lk : Cond.methodLink M.1.cls idx Lib.Math.min.name ∈ am_tbl) (hv : (if y < x then y else x) = v) (hroom : (st.map fun v => v.category).sum ≤ 8) (hR : 1 ≤ R.frames ∧ 21 ≤ R.locals) (hcs : k ≤ R.cells ∧ n ≤ R.slots) (h : am_Ev G M R kx nx Q (pc + 3) lv (.int v :: st) σ k n) : am_Ev G M R kx nx Q pc lv (.int y :: .int x :: st) σ k n := by
  intro p e s m ar bl mt cc Z H lo ls C T hH hS hl
  have hts := C.2.2.2.2.1
  have hr := am_rm (G := G) hroom
  subst hv
  exact va_mmin C.1 C.2.1 (by rw [hl.1]; exact C.2.2.1) C.2.2.2.1 (hts _ lk) (hts _ am_mn1) (hts _ am_mx0) (hts _ am_mn2) hR.1 (by omega) hcs.1 hcs.2 hd (h p e s m ar bl mt cc Z H lo ls C T hH hS hl)
end
/-- a contract out of the run of its body -/
theorem am_of {G : am_G} {D : Nat} {M : am_Mi} {np : Nat} {as : List Value} {σ : am_M} {kx nx : Nat} {Q : Option Value → am_M → Prop} (ok : am_ok M np) (hlv : (lg_sl (as.map (am_rv G))).length ≤ M.2.2.1) (h : am_Ev G M (am_R D kx nx) kx nx Q 0 (lv_args 0 as) [] σ 0 0) : am_Mt G D M as σ kx nx Q := by
  refine Met.ofW (cc := M.2.1) (maxL := M.2.2.1) (ret := M.2.2.2) ok.2.2.2 rfl ?_
  intro p e s m args below meth c s1 B hml hv
  obtain ⟨rfl, hH, hK⟩ := hv
  have hts := atoms_spec (ws := am_code M :: am_tbl) B.pre
  have hown : s.vm.findClass M.1.cls = some m.cls := findClass_of_methodNamed B.named
  have hlocks := B.notSynchronized
  have hr := B.returns
  have C : am_Cx G M p s m (as.map (am_rv G)).toArray meth c := ⟨B.exec, B.bytes, hml, hown, fun w hw => hts w (List.mem_cons_of_mem _ hw), hK, (name_of_methodNamed B.named B.method).1⟩
  have hl := lv_entry (as.map (am_rv G)) hlv
  rw [am_args] at hl
  rw [lg_entry_eq]
  refine h p e s m _ below meth c _ s.heap [] _ C ?_ hH va_S.rf hl
  intro v σ' H lo pc ls k n hq hH' hS' hk hn hret
  have fin : ∀ t : State, t.heap = H → s.WarmedH t.vm → am_Qc G Q (as.map (am_rv G)).toArray s (.returned (v.map (am_rv G))) t := fun t ht _ => ⟨⟨v, σ', rfl, hq, by rw [ht]; exact hH'⟩, hS'.F ht⟩
  refine W.widen hk hn ?_
  match v, hret, fin with
  | none, hret, fin => exact W.vret C.1 C.2.1 (hr.trans hret.1) fin hS'.2.2 hret.2
  | some (.int x), ⟨hd, ty, h1, h2⟩, fin => exact W.zret C.1 C.2.1 (hr.trans h1) h2 fin hS'.2.2 hd
  | some (.long x), ⟨h1, hd⟩, fin => exact W.lret C.1 C.2.1 (hr.trans h1) fin hS'.2.2 hd
  | some (.ref x), ⟨hd, ty, h1, h2⟩, fin => exact W.aret C.1 C.2.1 (hr.trans h1) h2 (Or.inr ⟨_, rfl⟩) fin hS'.2.2 hd
  | some .null, ⟨hd, ty, h1, h2⟩, fin => exact W.aret C.1 C.2.1 (hr.trans h1) h2 (Or.inl rfl) fin hS'.2.2 hd
