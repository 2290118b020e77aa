/-! memory rows -/
theorem am_vw {c : Nat} (h : c < 8) : vwCl[c]? = some (am_cl c) := by
  match c, h with
  | 0, _ => rfl
  | 1, _ => rfl
  | 2, _ => rfl
  | 3, _ => rfl
  | 4, _ => rfl
  | 5, _ => rfl
  | 6, _ => rfl
  | 7, _ => rfl
  | c + 8, h => exact absurd h (by omega)
theorem am_uw {c : Nat} (h : c < 8) : ∀ w ∈ u_ws (am_cl c).1 (am_cl c).2.1 (am_cl c).2.2, w ∈ am_tbl := by
  match c, h with
  | 0, _ => exact am_u0
  | 1, _ => exact am_u1
  | 2, _ => exact am_u2
  | 3, _ => exact am_u3
  | 4, _ => exact am_u4
  | 5, _ => exact am_u5
  | 6, _ => exact am_u6
  | 7, _ => exact am_u7
  | c + 8, h => exact absurd h (by omega)
theorem am_tyok {c : Nat} (h : c < 8) : ∀ k, k < (am_cl c).2.2 → parseFieldDescriptor ((am_cl c).2.1 k).2.2.1 = some (am_ty c k) := by
  match c, h with
  | 0, _ => exact tyX0_ok
  | 1, _ => exact tyX1_ok
  | 2, _ => exact tyX2_ok
  | 3, _ => exact tyX3_ok
  | 4, _ => exact tyX4_ok
  | 5, _ => exact tyX5_ok
  | 6, _ => exact tyX6_ok
  | 7, _ => exact tyX7_ok
  | c + 8, h => exact absurd h (by omega)
theorem am_nmok {c : Nat} (h : c < 8) : ∀ a, a < (am_cl c).2.2 → ∀ b, b < (am_cl c).2.2 → a ≠ b → ((am_cl c).2.1 a).2.1 ≠ ((am_cl c).2.1 b).2.1 := by
  match c, h with
  | 0, _ => exact nmX0
  | 1, _ => exact nmX1
  | 2, _ => exact nmX2
  | 3, _ => exact nmX3
  | 4, _ => exact nmX4
  | 5, _ => exact nmX5
  | 6, _ => exact nmX6
  | 7, _ => exact nmX7
  | c + 8, h => exact absurd h (by omega)
theorem am_tyk {c : Nat} (h : c < 8) : ∀ j, am_ty c j = .int ∨ am_ty c j = .boolean ∨ am_tR (am_ty c j) = true := by
  intro j
  match c, h with
  | 0, _ => show tyX0 j = _ ∨ tyX0 j = _ ∨ am_tR (tyX0 j) = true; unfold tyX0; split <;> simp [am_tR]
  | 1, _ => show tyX1 j = _ ∨ tyX1 j = _ ∨ am_tR (tyX1 j) = true; unfold tyX1; split <;> simp [am_tR]
  | 2, _ => show tyX2 j = _ ∨ tyX2 j = _ ∨ am_tR (tyX2 j) = true; unfold tyX2; split <;> simp [am_tR]
  | 3, _ => show tyX3 j = _ ∨ tyX3 j = _ ∨ am_tR (tyX3 j) = true; unfold tyX3; split <;> simp [am_tR]
  | 4, _ => show tyX4 j = _ ∨ tyX4 j = _ ∨ am_tR (tyX4 j) = true; unfold tyX4; split <;> simp [am_tR]
  | 5, _ => show tyX5 j = _ ∨ tyX5 j = _ ∨ am_tR (tyX5 j) = true; unfold tyX5; split <;> simp [am_tR]
  | 6, _ => show tyX6 j = _ ∨ tyX6 j = _ ∨ am_tR (tyX6 j) = true; unfold tyX6; split <;> simp [am_tR]
  | 7, _ => show tyX7 j = _ ∨ tyX7 j = _ ∨ am_tR (tyX7 j) = true; unfold tyX7; split <;> simp [am_tR]
  | c + 8, h => exact absurd h (by omega)
theorem am_eo {G : am_G} {σ : am_M} {c n a : Nat} (h : c < 8) : am_e G σ c n a = .inr (c, (List.range n).map (am_fv G σ c a)) := if_pos (by omega)
theorem am_ei {G : am_G} {σ : am_M} {n a : Nat} : am_e G σ 10 n a = .inl (G.2.2.1 0, n, .inl (σ.2.1 a)) := rfl
theorem am_eq {G : am_G} {σ : am_M} {c n a : Nat} (h : 10 < c) : am_e G σ c n a = .inl (G.2.2.1 (c - 10), n, .inr (.inr (.inr (.inr (fun k => (σ.2.2 a k).map (am_ad G)))))) := by
  unfold am_e
  rw [if_neg (by omega), if_neg (by omega)]
theorem am_rvrf {G : am_G} (r : Option Nat) : va_rf (r.map (am_ad G)) = am_rv G (va_rf r) := by cases r <;> rfl
theorem am_Hset {G : am_G} {σ σ' : am_M} {H H' : Heap} (hH : am_H G σ H) (h1 : σ'.1 = σ.1) {a c n : Nat} (h : 32 ≤ a) (ha : σ.1[a]? = some (c, n)) (hne : ∀ b c n, b ≠ a → am_e G σ' c n b = am_e G σ c n b) (e : va_at G.2.1 vwCl (am_ad G a, am_e G σ' c n a) H') (hz : H'.size = H.size) (oq : ∀ q : Nat, q ≠ am_ad G a → H'[q]? = H[q]?) : am_H G σ' H' := by
  refine ⟨by rw [h1]; exact hH.1, by rw [h1]; exact hH.2.1, by rw [h1, hz]; exact hH.2.2.1, ?_⟩
  have hs := hH.2.2.2.set am_D (am_wg h ha) e oq
  rw [am_wset h1 h ha hne rfl] at hs
  exact hs
theorem am_Hpush {G : am_G} {σ σ' : am_M} {H H' : Heap} (hH : am_H G σ H) {c n : Nat} (h1 : σ'.1 = σ.1 ++ [(c, n)]) (hne : ∀ b c n, b ≠ σ.1.length → am_e G σ' c n b = am_e G σ c n b) (e : va_at G.2.1 vwCl (am_ad G σ.1.length, am_e G σ' c n σ.1.length) H') (hz : H'.size = H.size + 1) (oq : ∀ q : Nat, q < H.size → H'[q]? = H[q]?) : am_H G σ' H' := by
  have hl : σ'.1.length = σ.1.length + 1 := by rw [h1, List.length_append]; rfl
  refine ⟨by rw [hl]; have := hH.1; omega, fun a ha => ?_, ?_, ?_⟩
  · rw [h1, List.getElem?_append_left (by have := hH.1; omega)]
    exact hH.2.1 a ha
  · rw [hz, hl, hH.2.2.1]
    have := hH.1
    omega
  · rw [← am_wpush hH.1 h1 hne rfl]
    refine va_P.app (hH.2.2.2.kept (fun k q hk => oq q.1 ((hH.2.2.2 k q hk).lt))) ?_
    intro k q hk
    have hz : k < 1 := (List.getElem?_eq_some_iff.mp hk).1
    rw [show k = 0 by omega] at hk
    cases hk
    exact e
theorem am_adS {G : am_G} {σ : am_M} {H : Heap} (hH : am_H G σ H) : am_ad G σ.1.length = H.size := by rw [am_adge hH.1, hH.2.2.1]
theorem am_AA {G : am_G} {a : Nat} (h : 32 ≤ a) : am_A G (am_ad G a) := by
  show G.2.2.2.1 ≤ am_ad G a
  rw [am_adge h]
  omega
section
variable {G : am_G} {M : am_Mi} {R : Room} {kx nx : Nat} {Q : Option Value → am_M → Prop} {pc : Nat} {lv lv' : List (Nat × Value)} {st : List Value} {σ : am_M} {k n : Nat}
/-- reading a field -/
theorem ev_get {idx c j N a : Nat} (f : am_fl M.1.cls idx c j) (hc : c < 8) (hj : j < N) (hN : (am_cl c).2.2 = N) (hk : σ.1[a]? = some (c, N)) (hd : decode M.2.1 pc = .ok (.getfield idx, 3)) {v : Value} (hv : am_fv G σ c a j = am_rv G v) (h : am_Ev G M R kx nx Q (pc + 3) lv (v :: st) σ k n) : am_Ev G M R kx nx Q pc lv (.ref a :: st) σ k n := by
  intro p e s m as b mt cc Z H lo ls C T hH hS hl
  have hh := h p e s m as b mt cc Z H lo ls C T hH hS hl
  subst hN
  have h32 := am_32 hH hk (by omega)
  have hg := am_wg (G := G) h32 hk
  rw [am_eo hc] at hg
  have hvv : ((List.range (am_cl c).2.2).map (am_fv G σ c a))[j]? = some (am_rv G v) := by
    rw [List.getElem?_map, List.getElem?_range hj, ← hv]
    rfl
  rcases f with f | ⟨host, f⟩
  · exact va_get C.1 C.2.1 C.2.2.2.2.1 (am_uw hc) C.2.2.2.1 C.2.2.2.2.2.1.1 hH.2.2.2 (a - 32) hg (am_vw hc) j hj (C.2.2.2.2.1 _ f) (fun _ h => h) hvv hd hh
  · exact va_getN C.1 C.2.1 C.2.2.2.2.1 (am_uw hc) C.2.2.2.1 C.2.2.2.2.2.1.1 hH.2.2.2 (a - 32) hg (am_vw hc) j hj (va_Nw.use (am_nont _ f) (C.2.2.2.2.2.1.2.1 _ f)) (fun _ h => h) hvv hd hh
theorem ev_getI {idx c j N a : Nat} {v : Int32} (hd : decode M.2.1 pc = .ok (.getfield idx, 3)) (f : am_fI M.1.cls idx c j N) (hk : σ.1[a]? = some (c, N)) (hv : σ.2.1 a j = v) (h : am_Ev G M R kx nx Q (pc + 3) lv (.int v :: st) σ k n) : am_Ev G M R kx nx Q pc lv (.ref a :: st) σ k n := by
  obtain ⟨f1, f2, f3, f4, f5⟩ := f
  refine ev_get f1 f2 f3 f4 hk hd (v := .int v) ?_ h
  subst hv
  show (if am_isR c j = true then _ else _) = _
  rw [f5]
  rfl
theorem ev_getR {idx c j N a b : Nat} (hd : decode M.2.1 pc = .ok (.getfield idx, 3)) (f : am_fR M.1.cls idx c j N) (hk : σ.1[a]? = some (c, N)) (hv : σ.2.2 a j = some b) (h : am_Ev G M R kx nx Q (pc + 3) lv (.ref b :: st) σ k n) : am_Ev G M R kx nx Q pc lv (.ref a :: st) σ k n := by
  obtain ⟨f1, f2, f3, f4, f5⟩ := f
  refine ev_get f1 f2 f3 f4 hk hd (v := .ref b) ?_ h
  show (if am_isR c j = true then _ else _) = _
  rw [f5, hv]
  rfl
theorem am_fld {c N j a : Nat} {σ' : am_M} {v : Value} (hc : c < 8) (hj : j < N) (hv : am_fv G σ' c a j = v) (ho : ∀ i, i ≠ j → am_fv G σ' c a i = am_fv G σ c a i) : am_e G σ' c N a = .inr (c, ((List.range N).map (am_fv G σ c a)).set j v) := by
  rw [am_eo hc]
  congr 2
  apply List.ext_getElem?
  intro i
  by_cases hi : i = j
  · subst hi
    rw [List.getElem?_set_self (by rw [List.length_map, List.length_range]; exact hj), List.getElem?_map, List.getElem?_range hj, ← hv]
    rfl
  · rw [List.getElem?_set_ne (Ne.symm hi), List.getElem?_map, List.getElem?_map]
    rcases Nat.lt_or_ge i N with q | q
    · rw [List.getElem?_range q]
      simp only [Option.map_some]
      rw [ho i hi]
    · rw [List.getElem?_eq_none (by rw [List.length_range]; exact q)]
      rfl
/-- writing a field that is not final -/
theorem ev_put {idx c j N a : Nat} {σ' : am_M} {w : Value} {v : Value} (f : am_fl M.1.cls idx c j) (hc : c < 8) (hj : j < N) (hN : (am_cl c).2.2 = N) (hfin : am_fin c j = false) (hk : σ.1[a]? = some (c, N)) (hd : decode M.2.1 pc = .ok (.putfield idx, 3)) (hw : am_rv G w = v) (hn : narrow (am_ty c j) v = v) (hft : fits (am_ty c j) v = true) (h1 : σ'.1 = σ.1) (hv : am_fv G σ' c a j = v) (ho : ∀ i, i ≠ j → am_fv G σ' c a i = am_fv G σ c a i) (hne : ∀ b c n, b ≠ a → am_e G σ' c n b = am_e G σ c n b) (h : am_Ev G M R kx nx Q (pc + 3) lv st σ' k n) : am_Ev G M R kx nx Q pc lv (w :: .ref a :: st) σ k n := by
  intro p e s m as b mt cc Z H lo ls C T hH hS hl
  subst hN
  subst hw
  have h32 := am_32 hH hk (by omega)
  have hg := am_wg (G := G) h32 hk
  have hK := C.2.2.2.2.2.1.1
  have hts := C.2.2.2.2.1
  have he := am_fld (σ := σ) hc hj hv ho
  rw [am_eo hc] at hg
  have hap := va_apart (own := M.1.cls) hts (am_uw hc) (am_ty c) (am_tyok hc) (am_nmok hc) hK (am_vw hc)
  obtain ⟨r, g1, cell, q1, q2, q3, q4⟩ := hH.2.2.2 (a - 32) _ hg
  have hr : r = am_cl c := Option.some.inj (g1.symm.trans (am_vw hc))
  subst hr
  obtain ⟨hSl, hfc, kC, hkC, hkind⟩ := hK.1 c _ (am_vw hc)
  obtain ⟨cf, kf, fi, fd, hi, hsl⟩ := hSl j hj
  have hlay := hts _ (am_uw hc _ (u_in_lay hj))
  unfold u_lay at hlay
  rw [if_neg (by show ¬ am_fin c j = true; rw [hfin]; decide)] at hlay
  have hst := (u_facts hfc hkC (u_lays hts (am_uw hc) hj) hi).1
  have h6 := u_store hfc hkC hkind hlay hi (am_tyok hc j hj) hn hft
  have fin : ∀ H' : Heap, H'[am_ad G a]? = some (cell.setSlot fd.slot (am_rv G w)) → H'.size = H.size → (∀ q, q ≠ am_ad G a → H'[q]? = H[q]?) → W p G.1 e R s m as b mt cc H' (lo ++ [⟨am_ad G a, fd.slot⟩]) k n Z (F0 m (pc + 3) ls (st.map (am_rv G))) := by
    intro H' e1 e2 e3
    refine h p e s m as b mt cc Z H' _ ls C T (am_Hset hH h1 h32 hk hne ?_ e2 e3) (hS.put e2 e3 (am_AA h32)) hl
    rw [he]
    rw [hsl] at e1
    exact ⟨_, am_vw hc, t_OB.to (V := updV (vp_V ((List.range (am_cl c).2.2).map (am_fv G σ c a))) j (am_rv G w)) ⟨_, e1, q2, q3, t_set q4 hap hj _⟩ (fun i _ => vp_updV_set (by rw [List.length_map, List.length_range]; exact hj) _ i)⟩
  rcases f with f | ⟨host, f⟩
  · exact W.putK C.1 C.2.1 (f := fd) ⟨C.2.2.2.1, hts _ f, ⟨_, _, _, hi⟩, hst⟩ (by rw [q2]; exact h6) q1 q3 (by rw [hsl]; exact k2_hasslot (q4 j hj)) rfl rfl hd fin
  · exact va_WputK C.1 C.2.1 (f := fd) C.2.2.2.1 (va_Nw.use (am_nont _ f) (C.2.2.2.2.2.1.2.1 _ f)) hi hst (by rw [q2]; exact h6) q1 q3 (by rw [hsl]; exact k2_hasslot (q4 j hj)) rfl rfl hd fin
theorem am_fvI {c j a i : Nat} {v : Int32} (h : i ≠ j) : am_fv G (am_sI σ a j v) c a i = am_fv G σ c a i := by
  have e : (am_sI σ a j v).2.1 a i = σ.2.1 a i := by simp [am_sI, am_up, h]
  unfold am_fv
  rw [e]
  rfl
theorem am_fvR {c j a i : Nat} {v : Option Nat} (h : i ≠ j) : am_fv G (am_sR σ a j v) c a i = am_fv G σ c a i := by
  have e : (am_sR σ a j v).2.2 a i = σ.2.2 a i := by simp [am_sR, am_up, h]
  unfold am_fv
  rw [e]
  rfl
theorem am_fvIs {c j a : Nat} {v : Int32} (h : am_isR c j = false) : am_fv G (am_sI σ a j v) c a j = .int v := by
  have e : (am_sI σ a j v).2.1 a j = v := by simp [am_sI, am_up]
  unfold am_fv
  rw [e, h]
  rfl
theorem am_fvRs {c j a : Nat} {v : Option Nat} (h : am_isR c j = true) : am_fv G (am_sR σ a j v) c a j = am_rv G (va_rf v) := by
  have e : (am_sR σ a j v).2.2 a j = v := by simp [am_sR, am_up]
  unfold am_fv
  rw [e, h, ← am_rvrf]
  rfl
theorem ev_putI {idx c j N a : Nat} {v : Int32} (hd : decode M.2.1 pc = .ok (.putfield idx, 3)) (f : am_fI M.1.cls idx c j N) (hfin : am_fin c j = false) (hty : am_ty c j = .int) (hk : σ.1[a]? = some (c, N)) (h : am_Ev G M R kx nx Q (pc + 3) lv st (am_sI σ a j v) k n) : am_Ev G M R kx nx Q pc lv (.int v :: .ref a :: st) σ k n := by
  obtain ⟨f1, f2, f3, f4, f5⟩ := f
  exact ev_put (σ' := am_sI σ a j v) f1 f2 f3 f4 hfin hk hd (v := .int v) rfl (by rw [hty]; rfl) (by rw [hty]; rfl) rfl (am_fvIs f5) (fun i hi => am_fvI hi) am_eI h
theorem ev_putZ {idx c j N a : Nat} {v : Int32} (hd : decode M.2.1 pc = .ok (.putfield idx, 3)) (f : am_fI M.1.cls idx c j N) (hfin : am_fin c j = false) (hty : am_ty c j = .boolean) (hv : v = 0 ∨ v = 1) (hk : σ.1[a]? = some (c, N)) (h : am_Ev G M R kx nx Q (pc + 3) lv st (am_sI σ a j v) k n) : am_Ev G M R kx nx Q pc lv (.int v :: .ref a :: st) σ k n := by
  obtain ⟨f1, f2, f3, f4, f5⟩ := f
  refine ev_put (σ' := am_sI σ a j v) f1 f2 f3 f4 hfin hk hd (v := .int v) rfl ?_ ?_ rfl (am_fvIs f5) (fun i hi => am_fvI hi) am_eI h
  · rw [hty]; rcases hv with rfl | rfl <;> rfl
  · rw [hty]; rcases hv with rfl | rfl <;> rfl
/-- writing a final field, in the constructor of its class -/
theorem ev_putF {idx c j N a : Nat} {σ' : am_M} {w : Value} {v : Value} (f : Cond.fieldLink M.1.cls idx ((am_cl c).2.1 j).1 ((am_cl c).2.1 j).2.1 ((am_cl c).2.1 j).2.2.1 ∈ am_tbl) (hc : c < 8) (hj : j < N) (hN : (am_cl c).2.2 = N) (hfin : am_fin c j = true) (hini : M.1.name = "<init>") (hown : ((am_cl c).2.1 j).1 = M.1.cls) (hk : σ.1[a]? = some (c, N)) (hd : decode M.2.1 pc = .ok (.putfield idx, 3)) (hw : am_rv G w = v) (hn : narrow (am_ty c j) v = v) (hft : fits (am_ty c j) v = true) (h1 : σ'.1 = σ.1) (hv : am_fv G σ' c a j = v) (ho : ∀ i, i ≠ j → am_fv G σ' c a i = am_fv G σ c a i) (hne : ∀ b c n, b ≠ a → am_e G σ' c n b = am_e G σ c n b) (h : am_Ev G M R kx nx Q (pc + 3) lv st σ' k n) : am_Ev G M R kx nx Q pc lv (w :: .ref a :: st) σ k n := by
  intro p e s m as b mt cc Z H lo ls C T hH hS hl
  subst hN
  subst hw
  have h32 := am_32 hH hk (by omega)
  have hg := am_wg (G := G) h32 hk
  have hK := C.2.2.2.2.2.1.1
  have hts := C.2.2.2.2.1
  have he := am_fld (σ := σ) hc hj hv ho
  rw [am_eo hc] at hg
  have hap := va_apart (own := M.1.cls) hts (am_uw hc) (am_ty c) (am_tyok hc) (am_nmok hc) hK (am_vw hc)
  obtain ⟨r, g1, cell, q1, q2, q3, q4⟩ := hH.2.2.2 (a - 32) _ hg
  have hr : r = am_cl c := Option.some.inj (g1.symm.trans (am_vw hc))
  subst hr
  obtain ⟨hSl, hfc, kC, hkC, hkind⟩ := hK.1 c _ (am_vw hc)
  obtain ⟨cf, kf, fi, fd, hi, hsl⟩ := hSl j hj
  have hlay := hts _ (am_uw hc _ (u_in_lay hj))
  unfold u_lay at hlay
  rw [if_pos (show ((am_cl c).2.1 j).2.2.2 = true from hfin)] at hlay
  have hst := (u_facts hfc hkC (u_lays hts (am_uw hc) hj) hi).1
  have hcf : m.cls = cf := by
    obtain ⟨_, _, c', _, _, _, -, -, hf', -, -, -, hown2, -⟩ := Cond.laysFinal_spec hlay
    have e1 : c' = cf := by have := hi.symm.trans hf'; simp at this; exact this.1.symm
    rw [hown] at hown2
    rw [← e1]
    exact Option.some.inj (C.2.2.2.1.symm.trans hown2)
  have h6 := u_fits hfc hkC hkind (Or.inr hlay) hi (am_tyok hc j hj) hn hft
  refine W.putFinK C.1 C.2.1 C.2.2.2.1 (hts _ f) hi hst hcf (C.2.2.2.2.2.2.trans hini) (by rw [q2]; exact h6) q1 q3 (by rw [hsl]; exact k2_hasslot (q4 j hj)) rfl rfl hd ?_
  intro H' e1 e2 e3
  refine h p e s m as b mt cc Z H' _ ls C T (am_Hset hH h1 h32 hk hne ?_ e2 e3) (hS.put e2 e3 (am_AA h32)) hl
  rw [he]
  rw [hsl] at e1
  exact ⟨_, am_vw hc, t_OB.to (V := updV (vp_V ((List.range (am_cl c).2.2).map (am_fv G σ c a))) j (am_rv G w)) ⟨_, e1, q2, q3, t_set q4 hap hj _⟩ (fun i _ => vp_updV_set (by rw [List.length_map, List.length_range]; exact hj) _ i)⟩
theorem am_flin {own : String} {idx c j : Nat} (h : am_fl own idx c j) (hn : ∀ host, Cond.fieldLinkNest own idx ((am_cl c).2.1 j).1 ((am_cl c).2.1 j).2.1 ((am_cl c).2.1 j).2.2.1 host ∉ am_nest) : Cond.fieldLink own idx ((am_cl c).2.1 j).1 ((am_cl c).2.1 j).2.1 ((am_cl c).2.1 j).2.2.1 ∈ am_tbl := h.elim id (fun ⟨host, q⟩ => absurd q (hn host))
theorem ev_putIF {idx c j N a : Nat} {v : Int32} (hd : decode M.2.1 pc = .ok (.putfield idx, 3)) (f : am_fI M.1.cls idx c j N) (fn : Cond.fieldLink M.1.cls idx ((am_cl c).2.1 j).1 ((am_cl c).2.1 j).2.1 ((am_cl c).2.1 j).2.2.1 ∈ am_tbl) (hfin : am_fin c j = true) (hini : M.1.name = "<init>") (hown : ((am_cl c).2.1 j).1 = M.1.cls) (hty : am_ty c j = .int) (hk : σ.1[a]? = some (c, N)) (h : am_Ev G M R kx nx Q (pc + 3) lv st (am_sI σ a j v) k n) : am_Ev G M R kx nx Q pc lv (.int v :: .ref a :: st) σ k n := by
  obtain ⟨f1, f2, f3, f4, f5⟩ := f
  exact ev_putF (σ' := am_sI σ a j v) fn f2 f3 f4 hfin hini hown hk hd (v := .int v) rfl (by rw [hty]; rfl) (by rw [hty]; rfl) rfl (am_fvIs f5) (fun i hi => am_fvI hi) am_eI h
theorem ev_putRF {idx c j N a b : Nat} (hd : decode M.2.1 pc = .ok (.putfield idx, 3)) (f : am_fR M.1.cls idx c j N) (fn : Cond.fieldLink M.1.cls idx ((am_cl c).2.1 j).1 ((am_cl c).2.1 j).2.1 ((am_cl c).2.1 j).2.2.1 ∈ am_tbl) (hfin : am_fin c j = true) (hini : M.1.name = "<init>") (hown : ((am_cl c).2.1 j).1 = M.1.cls) (hk : σ.1[a]? = some (c, N)) (h : am_Ev G M R kx nx Q (pc + 3) lv st (am_sR σ a j (some b)) k n) : am_Ev G M R kx nx Q pc lv (.ref b :: .ref a :: st) σ k n := by
  obtain ⟨f1, f2, f3, f4, f5⟩ := f
  have ht : am_tR (am_ty c j) = true := f5
  refine ev_putF (σ' := am_sR σ a j (some b)) fn f2 f3 f4 hfin hini hown hk hd (v := .ref (am_ad G b)) rfl ?_ ?_ rfl (am_fvRs f5) (fun i hi => am_fvR hi) am_eR h
  · cases hq : am_ty c j <;> first | rfl | (rw [hq] at ht; cases ht)
  · cases hq : am_ty c j <;> first | rfl | (rw [hq] at ht; cases ht)
end
