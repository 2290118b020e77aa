/-! arrays -/
def am_ix (x : Int32) (n j : Nat) : Prop := vp_in x n ∧ x.toNatClampNeg = j
theorem am_ixn {j n : Nat} (h : j < n) (hn : n < 2 ^ 31) : am_ix (nI j) n j := ⟨vp_in_nI h hn, nI_clamp (by omega)⟩
section
variable {G : am_G} {M : am_Mi} {R : Room} {kx nx : Nat} {Q : Option Value → am_M → Prop} {pc : Nat} {lv lv' : List (Nat × Value)} {st : List Value} {σ : am_M} {k n : Nat}
theorem am_t0 {G : am_G} : (am_ts G)[0]? = some (G.2.2.1 0, .int) := rfl
theorem ev_iald {a N j : Nat} {x v : Int32} (hd : decode M.2.1 pc = .ok (.iaload, 1)) (hk : σ.1[a]? = some (10, N)) (hi : am_ix x N j) (hv : σ.2.1 a j = v) (h : am_Ev G M R kx nx Q (pc + 1) lv (.int v :: st) σ k n) : am_Ev G M R kx nx Q pc lv (.int x :: .ref a :: st) σ k n := by
  intro p e s m as b mt cc Z H lo ls C T hH hS hl
  have h32 := am_32 hH hk (by omega)
  have hg := am_wg (G := G) h32 hk
  subst hv
  obtain ⟨hi, rfl⟩ := hi
  exact va_iald C.1 C.2.1 C.2.2.2.2.2.1.1 hH.2.2.2 (a - 32) 0 (hg.trans (congrArg (fun z => some (am_ad G a, z)) am_ei)) am_t0 hi hd (h p e s m as b mt cc Z H lo ls C T hH hS hl)
theorem ev_alen {a c N : Nat} {v : Int32} (hd : decode M.2.1 pc = .ok (.arraylength, 1)) (hk : σ.1[a]? = some (c, N)) (hc : 10 ≤ c ∧ c < 14) (hv : Int32.ofNat N = v) (h : am_Ev G M R kx nx Q (pc + 1) lv (.int v :: st) σ k n) : am_Ev G M R kx nx Q pc lv (.ref a :: st) σ k n := by
  intro p e s m as b mt cc Z H lo ls C T hH hS hl
  have h32 := am_32 hH hk (by omega)
  have hg := am_wg (G := G) h32 hk
  have hh := h p e s m as b mt cc Z H lo ls C T hH hS hl
  rcases (show c = 10 ∨ c = 11 ∨ c = 12 ∨ c = 13 by omega) with rfl | rfl | rfl | rfl
  · exact va_alen C.1 C.2.1 C.2.2.2.2.2.1.1 hH.2.2.2 (a - 32) 0 (x := (N, .inl (σ.2.1 a))) hg (ty := .int) rfl hv hd hh
  · exact va_alen C.1 C.2.1 C.2.2.2.2.2.1.1 hH.2.2.2 (a - 32) 1 (x := (N, .inr (.inr (.inr (.inr (fun k => (σ.2.2 a k).map (am_ad G))))))) hg (ty := .object RX1) rfl hv hd hh
  · exact va_alen C.1 C.2.1 C.2.2.2.2.2.1.1 hH.2.2.2 (a - 32) 2 (x := (N, .inr (.inr (.inr (.inr (fun k => (σ.2.2 a k).map (am_ad G))))))) hg (ty := .object RX5) rfl hv hd hh
  · exact va_alen C.1 C.2.1 C.2.2.2.2.2.1.1 hH.2.2.2 (a - 32) 3 (x := (N, .inr (.inr (.inr (.inr (fun k => (σ.2.2 a k).map (am_ad G))))))) hg (ty := .object RX3) rfl hv hd hh
theorem ev_iast {a N j : Nat} {x v : Int32} (hd : decode M.2.1 pc = .ok (.iastore, 1)) (hk : σ.1[a]? = some (10, N)) (hi : am_ix x N j) (h : am_Ev G M R kx nx Q (pc + 1) lv st (am_sI σ a j v) k n) : am_Ev G M R kx nx Q pc lv (.int v :: .int x :: .ref a :: st) σ k n := by
  intro p e s m as b mt cc Z H lo ls C T hH hS hl
  have h32 := am_32 hH hk (by omega)
  have hg := am_wg (G := G) h32 hk
  rw [am_ei] at hg
  obtain ⟨hi, rfl⟩ := hi
  refine W.iast C.1 C.2.1 (hH.2.2.2 (a - 32) _ hg) ((C.2.2.2.2.2.1.1.2 0 _ am_t0).1 N (fun j => .int (σ.2.1 a j))) (fun q => by cases q) (by show ¬ (x < 0 ∨ (arrV _ _ _).slots.size ≤ _); rw [arrV_size]; exact hi) rfl rfl hd fun H' e1 e2 e3 => ?_
  refine h p e s m as b mt cc Z H' _ ls C T (am_Hset hH rfl h32 hk am_eI ?_ e2 e3) (hS.put e2 e3 (am_AA h32)) hl
  rw [am_ei]
  show H'[am_ad G a]? = some (vp_cell _ _)
  rw [e1, vp_cell_i, vp_cell_i, arrV_store]
  congr 2
  funext q
  by_cases hq : q = x.toNatClampNeg
  · subst hq
    simp [updV, am_sI, am_up]
  · simp [updV, am_sI, am_up, hq]
theorem ev_aald {a c N j : Nat} {x : Int32} {r : Option Nat} (hd : decode M.2.1 pc = .ok (.aaload, 1)) (hk : σ.1[a]? = some (c, N)) (hc : 10 < c ∧ c < 14) (hi : am_ix x N j) (hv : σ.2.2 a j = r) (h : am_Ev G M R kx nx Q (pc + 1) lv (va_rf r :: st) σ k n) : am_Ev G M R kx nx Q pc lv (.int x :: .ref a :: st) σ k n := by
  intro p e s m as b mt cc Z H lo ls C T hH hS hl
  have h32 := am_32 hH hk (by omega)
  have hg := am_wg (G := G) h32 hk
  have hh := h p e s m as b mt cc Z H lo ls C T hH hS hl
  subst hv
  obtain ⟨hi, rfl⟩ := hi
  have hh : W p G.1 e R s m as b mt cc H lo k n Z (F0 m (pc + 1) ls (va_rf ((σ.2.2 a x.toNatClampNeg).map (am_ad G)) :: st.map (am_rv G))) := by rw [am_rvrf]; exact hh
  rcases (show c = 11 ∨ c = 12 ∨ c = 13 by omega) with rfl | rfl | rfl
  · exact va_aldq C.1 C.2.1 C.2.2.2.2.2.1.1 hH.2.2.2 (a - 32) 1 (f := fun k => (σ.2.2 a k).map (am_ad G)) hg (C := RX1) rfl hi hd hh
  · exact va_aldq C.1 C.2.1 C.2.2.2.2.2.1.1 hH.2.2.2 (a - 32) 2 (f := fun k => (σ.2.2 a k).map (am_ad G)) hg (C := RX5) rfl hi hd hh
  · exact va_aldq C.1 C.2.1 C.2.2.2.2.2.1.1 hH.2.2.2 (a - 32) 3 (f := fun k => (σ.2.2 a k).map (am_ad G)) hg (C := RX3) rfl hi hd hh
/-- the class of the elements -/
def am_cp (c : Nat) : Nat := match c with
  | 11 => 1
  | 12 => 5
  | _ => 3
theorem am_tq {G : am_G} {c : Nat} (hc : 10 < c ∧ c < 14) : (am_ts G)[c - 10]? = some (G.2.2.1 (c - 10), .object (am_cl (am_cp c)).1) ∧ am_cp c < 8 := by
  rcases (show c = 11 ∨ c = 12 ∨ c = 13 by omega) with rfl | rfl | rfl <;> exact ⟨rfl, by decide⟩
theorem ev_aast {a c N j r N2 : Nat} {x : Int32} (hd : decode M.2.1 pc = .ok (.aastore, 1)) (hk : σ.1[a]? = some (c, N)) (hc : 10 < c ∧ c < 14) (hk2 : σ.1[r]? = some (am_cp c, N2)) (hi : am_ix x N j) (h : am_Ev G M R kx nx Q (pc + 1) lv st (am_sR σ a j (some r)) k n) : am_Ev G M R kx nx Q pc lv (.ref r :: .int x :: .ref a :: st) σ k n := by
  intro p e s m as b mt cc Z H lo ls C T hH hS hl
  obtain ⟨ht, hc8⟩ := am_tq (G := G) hc
  have h32 := am_32 hH hk (by omega)
  have hg := am_wg (G := G) h32 hk
  rw [am_eq hc.1] at hg
  have h32r := am_32 hH hk2 (by omega)
  have hgr := am_wg (G := G) h32r hk2
  rw [am_eo hc8] at hgr
  obtain ⟨hi, rfl⟩ := hi
  have hlt : x.toNatClampNeg < N := Nat.not_le.mp fun q => hi (Or.inr q)
  have h0 : ¬ x < 0 := fun q => hi (Or.inl q)
  have hKK := C.2.2.2.2.2.1.1
  obtain ⟨r', hr', cellV, g1, g2, g3, -⟩ := hH.2.2.2 (r - 32) _ hgr
  have hcls := (hKK.1 (am_cp c) _ (am_vw hc8)).2
  obtain ⟨kA, comp, k1, k2, k3, -⟩ := (hKK.2 (c - 10) _ ht).2
  have hcomp : comp = G.2.1.1 (am_cp c) := Option.some.inj (k3.symm.trans hcls.1)
  subst hcomp
  obtain ⟨kC, hkC, -⟩ := hcls.2
  refine W.aast C.1 C.2.1 (hH.2.2.2 (a - 32) _ hg) (fun q h => by cases h) (fun h => by cases h) k1 k2 rfl hkC ⟨h0, by show _ < (arrV _ _ _).slots.size; rw [arrV_size]; exact hlt⟩ g1 (fun q h => by rw [g3] at h; cases h) (by rw [g2]; exact hkC) (by rw [g2]; exact va_assign hcls) rfl rfl hd fun H' e1 e2 e3 => ?_
  refine h p e s m as b mt cc Z H' _ ls C T (am_Hset hH rfl h32 hk am_eR ?_ e2 e3) (hS.put e2 e3 (am_AA h32)) hl
  rw [am_eq hc.1]
  show H'[am_ad G a]? = some (vp_cell _ _)
  rw [e1, vp_cell_q, vp_cell_q, arrV_store]
  congr 2
  funext q
  by_cases hq : q = x.toNatClampNeg
  · subst hq
    simp [updV, am_sR, am_up, va_rf]
  · simp [updV, am_sR, am_up, hq]
theorem ev_aastN {a c N j : Nat} {x : Int32} (hd : decode M.2.1 pc = .ok (.aastore, 1)) (hk : σ.1[a]? = some (c, N)) (hc : 10 < c ∧ c < 14) (hi : am_ix x N j) (h : am_Ev G M R kx nx Q (pc + 1) lv st (am_sR σ a j none) k n) : am_Ev G M R kx nx Q pc lv (.null :: .int x :: .ref a :: st) σ k n := by
  intro p e s m as b mt cc Z H lo ls C T hH hS hl
  obtain ⟨ht, hc8⟩ := am_tq (G := G) hc
  have h32 := am_32 hH hk (by omega)
  have hg := am_wg (G := G) h32 hk
  rw [am_eq hc.1] at hg
  obtain ⟨hi, rfl⟩ := hi
  refine va_WaastN (C := (am_cl (am_cp c)).1) C.1 C.2.1 (hH.2.2.2 (a - 32) _ hg) ((C.2.2.2.2.2.1.1.2 (c - 10) _ ht).1 N (fun j => va_rf ((σ.2.2 a j).map (am_ad G)))) (fun h => by cases h) (by show ¬ (x < 0 ∨ (arrV _ _ _).slots.size ≤ _); rw [arrV_size]; exact hi) rfl rfl hd fun H' e1 e2 e3 => ?_
  refine h p e s m as b mt cc Z H' _ ls C T (am_Hset hH rfl h32 hk am_eR ?_ e2 e3) (hS.put e2 e3 (am_AA h32)) hl
  rw [am_eq hc.1]
  show H'[am_ad G a]? = some (vp_cell _ _)
  rw [e1, vp_cell_q, vp_cell_q, arrV_store]
  congr 2
  funext q
  by_cases hq : q = x.toNatClampNeg
  · subst hq
    simp [updV, am_sR, am_up, va_rf]
  · simp [updV, am_sR, am_up, hq]
/-- a new object, its fields 0 or null -/
theorem ev_new {idx c N L : Nat} (hd : decode M.2.1 pc = .ok (.new idx, 3)) (hc : c < 8) (hN : (am_cl c).2.2 = N) (hw : Cond.classLink M.1.cls idx (am_cl c).1 ∈ am_tbl) (hib : Cond.instantiable (am_cl c).1 N ∈ am_tbl) (hin : Cond.initialized (am_cl c).1 ∈ am_tbl) (hL : σ.1.length = L) (hcells : k + 1 ≤ R.cells) (hslots : n + N ≤ R.slots) (h : am_Ev G M R kx nx Q (pc + 3) lv (.ref L :: st) (am_nw σ c N) (k + 1) (n + N)) : am_Ev G M R kx nx Q pc lv st σ k n := by
  intro p e s m as b mt cc Z H lo ls C T hH hS hl
  subst hN
  subst hL
  have hts := C.2.2.2.2.1
  have hKn := C.2.2.2.2.2.1.1.1 c _ (am_vw hc)
  refine W.newcK C.1 C.2.1 C.2.2.2.1 (hts _ hw) (hts _ hib) (hts _ hin) rfl hd hcells hslots hKn.2.1 (am_adS hH).symm fun H1 kC hkC e1 z1 o1 => ?_
  rw [am_adS hH] at z1 o1
  refine h p e s m as b mt cc Z H1 _ ls C T (am_Hpush hH rfl am_eN ?_ z1 o1) ⟨Nat.le_trans hS.1 (by omega), fun x h1 h2 => (o1 x (Nat.lt_of_lt_of_le h1 hS.1)).trans (hS.2.1 x h1 h2), hS.2.2⟩ hl
  rw [am_eo hc]
  refine ⟨_, am_vw hc, (u_born (am_ty c) hts (am_uw hc) hKn hkC e1 (am_tyok hc)).to (fun j hj => ?_)⟩
  have e0 : vp_V ((List.range (am_cl c).2.2).map (am_fv G (am_nw σ c (am_cl c).2.2) c σ.1.length)) j = am_fv G (am_nw σ c (am_cl c).2.2) c σ.1.length j := by
    unfold vp_V
    rw [List.getD_eq_getElem?_getD, List.getElem?_map, List.getElem?_range hj]
    rfl
  rw [e0]
  have e2 : (am_nw σ c (am_cl c).2.2).2.1 σ.1.length j = 0 := by simp [am_nw]
  have e3 : (am_nw σ c (am_cl c).2.2).2.2 σ.1.length j = none := by simp [am_nw]
  have hb : am_ty c j = .int ∨ am_ty c j = .boolean ∨ am_tR (am_ty c j) = true := am_tyk hc j
  unfold am_fv
  rw [e2, e3]
  unfold am_isR
  rcases hb with hb | hb | hb
  · rw [hb]; rfl
  · rw [hb]; rfl
  · rw [hb]
    cases hq : am_ty c j <;> first | rfl | (rw [hq] at hb; cases hb)
/-- a new array of ints -/
theorem ev_newa {L N : Nat} {x : Int32} (hd : decode M.2.1 pc = .ok (.newarray .int, 2)) (hx : ¬ x < 0) (hN : x.toNatClampNeg = N) (hb : N * 4 ≤ 536870912) (hL : σ.1.length = L) (hcells : k + 1 ≤ R.cells) (hslots : n + N ≤ R.slots) (h : am_Ev G M R kx nx Q (pc + 2) lv (.ref L :: st) (am_nw σ 10 N) (k + 1) (n + N)) : am_Ev G M R kx nx Q pc lv (.int x :: st) σ k n := by
  intro p e s m as b mt cc Z H lo ls C T hH hS hl
  subst hL
  refine va_newaK C.1 C.2.1 (atype := .int) (C.2.2.2.2.1 _ am_ai) rfl hd rfl hx hN hb hcells hslots (am_adS hH).symm fun H1 cA e1 z1 o1 hAr hNm => ?_
  rw [am_adS hH] at z1 o1
  refine h p e s m as b mt cc Z H1 _ ls C T (am_Hpush hH rfl am_eN ?_ z1 o1) ⟨Nat.le_trans hS.1 (by omega), fun y h1 h2 => (o1 y (Nat.lt_of_lt_of_le h1 hS.1)).trans (hS.2.1 y h1 h2), hS.2.2⟩ hl
  have hcA : cA = G.2.2.1 0 := Option.some.inj (hNm.symm.trans (C.2.2.2.2.2.1.1.2 0 _ am_t0).2)
  subst hcA
  rw [am_ei]
  show H1[am_ad G σ.1.length]? = some (vp_cell _ _)
  rw [e1, vp_cell_i]
  congr 2
  funext q
  simp [am_nw, defaultValue, newarray.typeOf]
/-- a new array of references -/
theorem ev_newq {idx c L N : Nat} {x : Int32} (hd : decode M.2.1 pc = .ok (.anewarray idx, 3)) (hc : 10 < c ∧ c < 14) (hw : Cond.classLink M.1.cls idx (am_cl (am_cp c)).1 ∈ am_tbl) (hx : ¬ x < 0) (hN : x.toNatClampNeg = N) (hb : N * 4 ≤ 536870912) (hL : σ.1.length = L) (hcells : k + 1 ≤ R.cells) (hslots : n + N ≤ R.slots) (h : am_Ev G M R kx nx Q (pc + 3) lv (.ref L :: st) (am_nw σ c N) (k + 1) (n + N)) : am_Ev G M R kx nx Q pc lv (.int x :: st) σ k n := by
  intro p e s m as b mt cc Z H lo ls C T hH hS hl
  subst hL
  subst hN
  obtain ⟨ht, hc8⟩ := am_tq (G := G) hc
  have hAO : va_AO (am_cl (am_cp c)).1 s := by
    have hq := C.2.2.2.2.2.1.2.2.1
    rcases (show c = 11 ∨ c = 12 ∨ c = 13 by omega) with rfl | rfl | rfl
    · exact hq.1
    · exact hq.2.1
    · exact hq.2.2
  refine W.anew C.1 C.2.1 C.2.2.2.1 (C.2.2.2.2.1 _ hw) (va_AO.use hAO) rfl hd rfl hx hb hcells hslots fun cA kA comp f1 f2 f3 f4 => ?_
  have hcA : cA = G.2.2.1 (c - 10) := by
    obtain ⟨kA', comp', g1, g2, g3, g4⟩ := (C.2.2.2.2.2.1.1.2 (c - 10) _ ht).2
    exact Option.some.inj (f1.symm.trans g4)
  subst hcA
  generalize hH1 : H.push ({ cls := G.2.2.1 (c - 10), slots := Array.replicate x.toNatClampNeg .null, vm := .none } : Cell) = H1
  have z1 : H1.size = H.size + 1 := by rw [← hH1, Array.size_push]
  have o1 : ∀ q : Nat, q < H.size → H1[q]? = H[q]? := fun q hq => by rw [← hH1, Array.getElem?_push, if_neg (Nat.ne_of_lt hq)]
  have e1 : H1[H.size]? = some (arrV (G.2.2.1 (c - 10)) x.toNatClampNeg (fun _ => .null)) := by rw [← hH1, Array.getElem?_push_size, ← arrV_new]
  have hh := h p e s m as b mt cc Z H1 lo ls C T (am_Hpush hH rfl am_eN ?_ z1 o1) ⟨Nat.le_trans hS.1 (by omega), fun y h1 h2 => (o1 y (Nat.lt_of_lt_of_le h1 hS.1)).trans (hS.2.1 y h1 h2), hS.2.2⟩ hl
  · have ea : am_rv G (.ref σ.1.length) = .ref H.size := by show Value.ref _ = _; rw [am_adS hH]
    rw [List.map_cons, ea] at hh
    exact hh
  · rw [am_eq hc.1]
    show H1[am_ad G σ.1.length]? = some (vp_cell _ _)
    rw [am_adS hH, e1, vp_cell_q]
    congr 2
    funext q
    simp [am_nw, va_rf]
end
