/-! the machine's own copying between arrays of ints -/
/-- n places of a, from i on, laid into b from j on -/
def am_ac (σ : am_M) (a b i j n : Nat) : am_M := (σ.1, fun x y => if x = b ∧ j ≤ y ∧ y < j + n then σ.2.1 a (i + (y - j)) else σ.2.1 x y, σ.2.2)
theorem am_acE {G : am_G} {σ : am_M} {a b i j n : Nat} : ∀ x c m, x ≠ b → am_e G (am_ac σ a b i j n) c m x = am_e G σ c m x := by
  intro x c m hx
  have e : ∀ y, (am_ac σ a b i j n).2.1 x y = σ.2.1 x y := fun y => if_neg (fun z => hx z.1)
  have e2 : (am_ac σ a b i j n).2.1 x = σ.2.1 x := funext e
  have f : am_fv G (am_ac σ a b i j n) c x = am_fv G σ c x := by
    funext y
    unfold am_fv
    rw [e]
    rfl
  unfold am_e
  rw [f, e2]
  rfl
section
variable {G : am_G} {M : am_Mi} {R : Room} {kx nx : Nat} {Q : Option Value → am_M → Prop} {pc : Nat} {lv : List (Nat × Value)} {st : List Value} {σ : am_M} {k n : Nat}
theorem ev_acpy {idx a b N0 N1 i j c : Nat} (hd : decode M.2.1 pc = .ok (.invokestatic idx, 3)) (lk : Cond.methodLink M.1.cls idx arraycopyName ∈ am_tbl) (hka : σ.1[a]? = some (10, N0)) (hkb : σ.1[b]? = some (10, N1)) (h0 : i + c ≤ N0) (h1 : j + c ≤ N1) (hN0 : N0 < 2 ^ 31) (hN1 : N1 < 2 ^ 31) (hst : (st.map fun v => v.category).sum ≤ 8) (hR : 1 ≤ R.frames ∧ 64 ≤ R.locals) (h : am_Ev G M R kx nx Q (pc + 3) lv st (am_ac σ a b i j c) k n) : am_Ev G M R kx nx Q pc lv (.int (nI c) :: .int (nI j) :: .ref b :: .int (nI i) :: .ref a :: st) σ k n := by
  intro p e s m as bl mt cc Z H lo ls C T hH hS hl
  have ha32 := am_32 hH hka (by omega)
  have hb32 := am_32 hH hkb (by omega)
  have hga := am_wg (G := G) ha32 hka
  have hgb := am_wg (G := G) hb32 hkb
  rw [am_ei] at hga hgb
  have hts := C.2.2.2.2.1
  have hK := C.2.2.2.2.2.1.1
  have hc0 := hH.2.2.2 (a - 32) _ hga
  have hc1 := hH.2.2.2 (b - 32) _ hgb
  have n0 : ∀ z, z < 2 ^ 31 → (nI z).toNatClampNeg = z := fun z hz => nI_clamp hz
  have hcat : ((st.map (am_rv G)).map fun v => v.category).sum ≤ 8 := am_rm hst
  intro T1 hT X
  obtain ⟨-, k0, hk0, cm0, hkk0⟩ := (hK.2 0 _ am_t0).1 N0 (fun y => .int (σ.2.1 a y))
  obtain ⟨-, k1, hk1, cm1, hkk1⟩ := (hK.2 0 _ am_t0).1 N1 (fun y => .int (σ.2.1 b y))
  have hw : nativeFrameWords "java/lang/System" "arraycopy" 5 + 11 ≤ 56 := by decide +kernel
  obtain ⟨vm', X', step⟩ := X.arraycopy C.1 C.2.2.2.1 (hts _ lk) (hts _ am_acn) (hts _ am_acs) (hts _ am_aci) (src := am_ad G a) (dst := am_ad G b) (cs := vp_cell (G.2.2.1 0) (N0, .inl (σ.2.1 a))) (cd := vp_cell (G.2.2.1 0) (N1, .inl (σ.2.1 b))) (srcPos := nI i) (destPos := nI j) (n := nI c) (by rw [hT]; exact hc0) (by rw [hT]; exact hc1)
    (fun _ z => by cases z) (fun _ z => by cases z) (fun z => by cases z) (fun z => by cases z) hk0 hk1 hkk0 hkk1 (by simp [refKind]) (nI_pos (by omega)) (nI_pos (by omega)) (nI_pos (by omega))
    (by rw [nI_toInt (by omega), nI_toInt (by omega)]; show ¬ _ > ((arrV _ N0 (fun y => .int (σ.2.1 a y))).slots.size : Int); rw [arrV_size]; omega)
    (by rw [nI_toInt (by omega), nI_toInt (by omega)]; show ¬ _ > ((arrV _ N1 (fun y => .int (σ.2.1 b y))).slots.size : Int); rw [arrV_size]; omega)
    (fun vm₁ _ y hy => by
      rw [n0 c (by omega)] at hy
      rw [n0 i (by omega)]
      have e0 : (vp_cell (G.2.2.1 0) (N0, .inl (σ.2.1 a))).slots.getD (i + y) .null = .int (σ.2.1 a (i + y)) := by
        show (arrV _ N0 (fun j => .int (σ.2.1 a j))).slots.getD _ _ = _
        rw [Array.getD_eq_getD_getElem?, arrV_read _ _ (by omega)]
        rfl
      exact ⟨by rw [e0]; rfl, by rw [e0]; exact trivial⟩)
    (g := F0 m pc ls ((Value.int (nI c) :: .int (nI j) :: .ref b :: .int (nI i) :: .ref a :: st).map (am_rv G))) rfl (by rw [C.2.2.1, hl.1]) (rest := st.map (am_rv G)) rfl (by rw [C.2.1]; exact hd) hR.1 (by show 2 * 0 + _ + _ ≤ _; omega)
  have e1 : copied (vp_cell (G.2.2.1 0) (N0, .inl (σ.2.1 a))) (vp_cell (G.2.2.1 0) (N1, .inl (σ.2.1 b))) (nI i) (nI j) (nI c) = vp_cell (G.2.2.1 0) (N1, .inl (va_cpy (σ.2.1 a) (σ.2.1 b) i j c)) := by
    have z := va_copied (fun z => Value.int z) (G.2.2.1 0) (G.2.2.1 0) (n1 := N1) (sp := i) (dp := j) (n := c) (σ.2.1 a) (σ.2.1 b) h0
    show (vp_cell (G.2.2.1 0) (N1, .inl (σ.2.1 b))).storeRun (nI j).toNatClampNeg ((vp_cell (G.2.2.1 0) (N0, .inl (σ.2.1 a))).stretch (nI i).toNatClampNeg (nI c).toNatClampNeg) = _
    rw [n0 i (by omega), n0 j (by omega), n0 c (by omega)]
    exact z
  rw [e1] at X' step
  have hlt : am_ad G b < H.size := (Array.getElem?_eq_some_iff.mp hc1).1
  have oq : ∀ q : Nat, q ≠ am_ad G b → (H.setIfInBounds (am_ad G b) (vp_cell (G.2.2.1 0) (N1, .inl (va_cpy (σ.2.1 a) (σ.2.1 b) i j c))))[q]? = H[q]? := fun q hq => by simp [Array.getElem?_setIfInBounds, Ne.symm hq]
  have hAb : am_A G (am_ad G b) := am_AA hb32
  have hat : va_at G.2.1 vwCl (am_ad G b, am_e G (am_ac σ a b i j c) 10 N1 b) (H.setIfInBounds (am_ad G b) (vp_cell (G.2.2.1 0) (N1, .inl (va_cpy (σ.2.1 a) (σ.2.1 b) i j c)))) := by
    rw [am_ei]
    show (H.setIfInBounds _ _)[am_ad G b]? = some (vp_cell _ _)
    have e2 : (am_ac σ a b i j c).2.1 b = va_cpy (σ.2.1 a) (σ.2.1 b) i j c := by
      funext y
      show (if b = b ∧ j ≤ y ∧ y < j + c then σ.2.1 a (i + (y - j)) else σ.2.1 b y) = (if j ≤ y ∧ y < j + c then σ.2.1 a (i + (y - j)) else σ.2.1 b y)
      simp
    rw [e2]
    simp [Array.getElem?_setIfInBounds, hlt]
  obtain ⟨t, a1, b1⟩ := h p e s m as bl mt cc Z _ (lo ++ _) ls C T (am_Hset hH rfl hb32 hkb am_acE hat (by simp) oq) ⟨by simp; exact hS.1, fun q g1 g2 => by
      rw [oq q (fun z => g2 (by rw [z]; exact hAb))]
      exact hS.2.1 q g1 g2, fun q hq => by
      rcases List.mem_append.mp hq with z | z
      · exact hS.2.2 q z
      · obtain ⟨y, -, hy⟩ := List.mem_map.mp z
        rw [← hy]
        exact hAb⟩ hl _ (by rw [← hT]; rfl) X'
  exact ⟨t, step t a1, b1⟩
end
