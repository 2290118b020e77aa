/-! THE ABSTRACT MACHINE: a memory of numbered cells, read as kinds, ints, references; a frame's run over it. Addresses 0 .. 31 are given cells (script, table, texts; 28 a formatter, if there is one). -/
abbrev am_G : Type := Launch × va_G × (Nat → ClassId) × Nat × (Nat → Nat) × Nat × (Nat → Int32)
abbrev am_M : Type := List (Nat × Nat) × (Nat → Nat → Int32) × (Nat → Nat → Option Nat)
def am_A (G : am_G) : Nat → Prop := fun q => G.2.2.2.1 ≤ q
def am_ad (G : am_G) (i : Nat) : Nat := if i < 32 then G.2.2.2.2.1 i else G.2.2.2.1 + (i - 32)
def am_rv (G : am_G) (v : Value) : Value := match v with
  | .ref i => .ref (am_ad G i)
  | w => w
def am_up {α : Type} (f : Nat → Nat → α) (a k : Nat) (v : α) : Nat → Nat → α := fun x y => if x = a ∧ y = k then v else f x y
def am_sI (σ : am_M) (a k : Nat) (v : Int32) : am_M := (σ.1, am_up σ.2.1 a k v, σ.2.2)
def am_sR (σ : am_M) (a k : Nat) (v : Option Nat) : am_M := (σ.1, σ.2.1, am_up σ.2.2 a k v)
def am_nw (σ : am_M) (c n : Nat) : am_M := (σ.1 ++ [(c, n)], fun x y => if x = σ.1.length then 0 else σ.2.1 x y, fun x y => if x = σ.1.length then none else σ.2.2 x y)
def am_fv (G : am_G) (σ : am_M) (c a k : Nat) : Value := if am_isR c k then va_rf ((σ.2.2 a k).map (am_ad G)) else .int (σ.2.1 a k)
def am_e (G : am_G) (σ : am_M) (c n a : Nat) : va_E := if c < 10 then .inr (c, (List.range n).map (am_fv G σ c a)) else if c = 10 then .inl (G.2.2.1 0, n, .inl (σ.2.1 a)) else .inl (G.2.2.1 (c - 10), n, .inr (.inr (.inr (.inr (fun k => (σ.2.2 a k).map (am_ad G))))))
def am_kd (σ : am_M) (a : Nat) : Nat × Nat := σ.1.getD a (999, 0)
def am_ws (G : am_G) (σ : am_M) : va_W := (List.range (σ.1.length - 32)).map (fun i => (G.2.2.2.1 + i, am_e G σ (am_kd σ (i + 32)).1 (am_kd σ (i + 32)).2 (i + 32)))
def am_H (G : am_G) (σ : am_M) (H : Heap) : Prop := 32 ≤ σ.1.length ∧ (∀ a, a < 32 → σ.1[a]? = some (999, 0)) ∧ H.size = G.2.2.2.1 + (σ.1.length - 32) ∧ va_P G.2.1 vwCl (am_ws G σ) H
def am_ts (G : am_G) : List (ClassId × FieldType) := [(G.2.2.1 0, .int), (G.2.2.1 1, .object RX1), (G.2.2.1 2, .object RX5), (G.2.2.1 3, .object RX3)]
theorem am_len {σ : am_M} {a c n : Nat} (h : σ.1[a]? = some (c, n)) : a < σ.1.length := (List.getElem?_eq_some_iff.mp h).1
theorem am_32 {G : am_G} {σ : am_M} {H : Heap} (h : am_H G σ H) {a c n : Nat} (ha : σ.1[a]? = some (c, n)) (hc : c < 900) : 32 ≤ a := by
  rcases Nat.lt_or_ge a 32 with q | q
  · have h1 := h.2.1 a q
    rw [ha] at h1
    cases h1
    omega
  · exact q
theorem am_adge {G : am_G} {a : Nat} (h : 32 ≤ a) : am_ad G a = G.2.2.2.1 + (a - 32) := by unfold am_ad; rw [if_neg (by omega)]
theorem am_wlen {G : am_G} {σ : am_M} : (am_ws G σ).length = σ.1.length - 32 := by unfold am_ws; rw [List.length_map, List.length_range]
theorem am_wg {G : am_G} {σ : am_M} {a c n : Nat} (h : 32 ≤ a) (ha : σ.1[a]? = some (c, n)) : (am_ws G σ)[a - 32]? = some (am_ad G a, am_e G σ c n a) := by
  have hl := am_len ha
  unfold am_ws
  rw [List.getElem?_map, List.getElem?_range (by omega)]
  have e : a - 32 + 32 = a := by omega
  simp only [Option.map_some, e]
  have k : am_kd σ a = (c, n) := by unfold am_kd; rw [List.getD_eq_getElem?_getD, ha]; rfl
  rw [k, am_adge h]
theorem am_D {G : am_G} {σ : am_M} : va_D (am_A G) (am_ws G σ) := by
  have key : ∀ (k : Nat) (q : Nat × va_E), (am_ws G σ)[k]? = some q → q.1 = G.2.2.2.1 + k := by
    intro k q h
    have hl := (List.getElem?_eq_some_iff.mp h).1
    rw [am_wlen] at hl
    unfold am_ws at h
    rw [List.getElem?_map, List.getElem?_range hl] at h
    cases h
    rfl
  refine ⟨fun i j p q h1 h2 h3 => ?_, fun k q h => ?_⟩
  · rw [key i p h1, key j q h2] at h3
    omega
  · show G.2.2.2.1 ≤ q.1
    rw [key k q h]
    omega
theorem am_wset {G : am_G} {σ σ' : am_M} (h1 : σ'.1 = σ.1) {a c n : Nat} (h : 32 ≤ a) (ha : σ.1[a]? = some (c, n)) (hne : ∀ b c n, b ≠ a → am_e G σ' c n b = am_e G σ c n b) {e : va_E} (he : am_e G σ' c n a = e) : (am_ws G σ).set (a - 32) (am_ad G a, e) = am_ws G σ' := by
  have hl := am_len ha
  subst he
  apply List.ext_getElem?
  intro k
  by_cases hk : k = a - 32
  · subst hk
    rw [List.getElem?_set_self (by rw [am_wlen]; omega), am_wg h (by rw [h1]; exact ha)]
  · rw [List.getElem?_set_ne (Ne.symm hk)]
    rcases Nat.lt_or_ge k (σ.1.length - 32) with q | q
    · unfold am_ws
      rw [List.getElem?_map, List.getElem?_map, List.getElem?_range q, List.getElem?_range (by rw [h1]; exact q)]
      simp only [Option.map_some]
      have k2 : am_kd σ' (k + 32) = am_kd σ (k + 32) := by unfold am_kd; rw [h1]
      rw [k2, hne _ _ _ (by omega)]
    · rw [List.getElem?_eq_none (by rw [am_wlen]; exact q), List.getElem?_eq_none (by rw [am_wlen, h1]; exact q)]
theorem am_wpush {G : am_G} {σ σ' : am_M} {c n : Nat} (h32 : 32 ≤ σ.1.length) (h1 : σ'.1 = σ.1 ++ [(c, n)]) (hne : ∀ b c n, b ≠ σ.1.length → am_e G σ' c n b = am_e G σ c n b) {e : va_E} (he : am_e G σ' c n σ.1.length = e) : am_ws G σ ++ [(am_ad G σ.1.length, e)] = am_ws G σ' := by
  subst he
  apply List.ext_getElem?
  intro k
  rcases Nat.lt_or_ge k (σ.1.length - 32) with q | q
  · rw [List.getElem?_append_left (by rw [am_wlen]; exact q)]
    unfold am_ws
    rw [List.getElem?_map, List.getElem?_map, List.getElem?_range q, List.getElem?_range (by rw [h1, List.length_append]; omega)]
    simp only [Option.map_some]
    have k2 : am_kd σ' (k + 32) = am_kd σ (k + 32) := by
      unfold am_kd
      rw [h1, List.getD_eq_getElem?_getD, List.getD_eq_getElem?_getD, List.getElem?_append_left (by omega)]
    rw [k2, hne _ _ _ (by omega)]
  · rw [List.getElem?_append_right (by rw [am_wlen]; exact q), am_wlen]
    by_cases hk : k = σ.1.length - 32
    · subst hk
      have e : σ.1.length - 32 - (σ.1.length - 32) = 0 := by omega
      rw [e]
      have g := am_wg (G := G) (σ := σ') (a := σ.1.length) (c := c) (n := n) h32 (by rw [h1, List.getElem?_append_right (Nat.le_refl _), Nat.sub_self]; rfl)
      rw [g]
      rfl
    · have e : k - (σ.1.length - 32) = (k - (σ.1.length - 32) - 1) + 1 := by omega
      rw [e, List.getElem?_cons_succ, List.getElem?_nil, List.getElem?_eq_none (by rw [am_wlen, h1, List.length_append]; simp; omega)]
theorem am_eI {G : am_G} {σ : am_M} {a k : Nat} {v : Int32} : ∀ b c n, b ≠ a → am_e G (am_sI σ a k v) c n b = am_e G σ c n b := by
  intro b c n hb
  have e : ∀ y, (am_sI σ a k v).2.1 b y = σ.2.1 b y := fun y => by simp [am_sI, am_up, hb]
  have e2 : (am_sI σ a k v).2.1 b = σ.2.1 b := funext e
  have f : am_fv G (am_sI σ a k v) c b = am_fv G σ c b := by
    funext y
    unfold am_fv
    rw [e]
    rfl
  unfold am_e
  rw [f, e2]
  rfl
theorem am_eR {G : am_G} {σ : am_M} {a k : Nat} {v : Option Nat} : ∀ b c n, b ≠ a → am_e G (am_sR σ a k v) c n b = am_e G σ c n b := by
  intro b c n hb
  have e : ∀ y, (am_sR σ a k v).2.2 b y = σ.2.2 b y := fun y => by simp [am_sR, am_up, hb]
  have f : am_fv G (am_sR σ a k v) c b = am_fv G σ c b := by
    funext y
    unfold am_fv
    rw [e]
    rfl
  have g : (fun k' => ((am_sR σ a k v).2.2 b k').map (am_ad G)) = (fun k' => (σ.2.2 b k').map (am_ad G)) := by
    funext y
    rw [e]
  unfold am_e
  rw [f, g]
  rfl
theorem am_eN {G : am_G} {σ : am_M} {c0 n0 : Nat} : ∀ b c n, b ≠ σ.1.length → am_e G (am_nw σ c0 n0) c n b = am_e G σ c n b := by
  intro b c n hb
  have e : ∀ y, (am_nw σ c0 n0).2.1 b y = σ.2.1 b y := fun y => by simp [am_nw, hb]
  have e2 : (am_nw σ c0 n0).2.1 b = σ.2.1 b := funext e
  have e3 : ∀ y, (am_nw σ c0 n0).2.2 b y = σ.2.2 b y := fun y => by simp [am_nw, hb]
  have f : am_fv G (am_nw σ c0 n0) c b = am_fv G σ c b := by
    funext y
    unfold am_fv
    rw [e, e3]
  have g : (fun k' => ((am_nw σ c0 n0).2.2 b k').map (am_ad G)) = (fun k' => (σ.2.2 b k').map (am_ad G)) := by
    funext y
    rw [e3]
  unfold am_e
  rw [f, g, e2]

/-! what stands of the given cells and the tables, at any state -/
def am_ka (j : Nat) : Int32 := match j with
  | 0 => -1
  | 3 => 1
  | 4 => 2
  | _ => 0
def am_So : List (String × Nat × String) := [(RX6, 68, "weight loud * 2 + depth ; points 1 ; hires depth ;"), (RX4, 110, "depth"), (RX4, 116, "asked"), (RX4, 118, "loud"), (RX4, 120, "topic"), (RX4, 122, "round"), (RX4, 124, "who"), (RX4, 126, "or"), (RX4, 128, "and"), (RX4, 130, "not"), (RX4, 132, "weight"), (RX4, 134, "points"), (RX4, 136, "hires")]
def am_Sl : List Nat := [50, 5, 5, 4, 5, 5, 3, 2, 3, 3, 6, 6, 5]
def am_Sb : List (List Int32) := [[119, 101, 105, 103, 104, 116, 32, 108, 111, 117, 100, 32, 42, 32, 50, 32, 43, 32, 100, 101, 112, 116, 104, 32, 59, 32, 112, 111, 105, 110, 116, 115, 32, 49, 32, 59, 32, 104, 105, 114, 101, 115, 32, 100, 101, 112, 116, 104, 32, 59], [100, 101, 112, 116, 104], [97, 115, 107, 101, 100], [108, 111, 117, 100], [116, 111, 112, 105, 99], [114, 111, 117, 110, 100], [119, 104, 111], [111, 114], [97, 110, 100], [110, 111, 116], [119, 101, 105, 103, 104, 116], [112, 111, 105, 110, 116, 115], [104, 105, 114, 101, 115]]
def am_F (G : am_G) (U : State) : Prop :=
  (va_X (G.2.2.2.2.1 0) G.2.2.2.2.2.1 G.2.2.2.2.2.2 U U.heap ∧ ¬ am_A G (G.2.2.2.2.1 0)) ∧
  (va_Z RX1 "KIND_ABOVE" "[I" (.ref (G.2.2.2.2.1 1)) (am_A G) U U.heap ∧ va_T .int (G.2.2.2.2.1 1) 6 (fun j => .int (am_ka j)) (am_A G) U U.heap) ∧
  (vk_S 13 am_Sl am_Sb (fun i => G.2.2.2.2.1 (2 + i)) (fun i => G.2.2.2.2.1 (15 + i)) (am_A G) U U.heap ∧ ∀ i o x t, am_So[i]? = some (o, x, t) → vk_R o x t (G.2.2.2.2.1 (2 + i)) U) ∧
  va_Z "java/lang/String" "COMPACT_STRINGS" "Z" (.int 1) (am_A G) U U.heap ∧ (va_Z "jdk/internal/util/Preconditions" "SIOOBE_FORMATTER" "Ljava/util/function/BiFunction;" .null (am_A G) U U.heap ∨ va_Z "jdk/internal/util/Preconditions" "SIOOBE_FORMATTER" "Ljava/util/function/BiFunction;" (.ref (G.2.2.2.2.1 28)) (am_A G) U U.heap)
def am_K (G : am_G) (U : State) : Prop :=
  va_K G.2.1 vwCl (am_ts G) U ∧ (∀ w ∈ am_nest, va_Nw w U) ∧ (va_AO RX1 U ∧ va_AO RX5 U ∧ va_AO RX3 U) ∧ G.2.2.2.1 ≤ U.heap.size ∧ am_F G U
theorem am_nwarm {s U : State} (hW : s.WarmedH U.vm) (h : ∀ w ∈ am_nest, va_Nw w s) : ∀ w ∈ am_nest, va_Nw w U := by
  intro w hw
  have h1 := h w hw
  simp only [am_nest, List.mem_cons, List.not_mem_nil, or_false] at hw
  rcases hw with rfl | rfl | rfl | rfl | rfl | rfl | rfl | rfl | rfl | rfl | rfl | rfl | rfl | rfl | rfl | rfl | rfl | rfl | rfl | rfl | rfl | rfl | rfl | rfl | rfl | rfl | rfl <;> first | exact va_Nw.warmF hW h1 | exact va_Nw.warmM hW h1
theorem am_nont : ∀ w ∈ am_nest, w.onTables = true := by
  intro w hw
  simp only [am_nest, List.mem_cons, List.not_mem_nil, or_false] at hw
  rcases hw with rfl | rfl | rfl | rfl | rfl | rfl | rfl | rfl | rfl | rfl | rfl | rfl | rfl | rfl | rfl | rfl | rfl | rfl | rfl | rfl | rfl | rfl | rfl | rfl | rfl | rfl | rfl <;> rfl
theorem am_K.warm {G : am_G} {s U : State} (hW : s.WarmedH U.vm) (hz : s.heap.size ≤ U.heap.size) (hk : ∀ q : Nat, q < s.heap.size → ¬ am_A G q → U.heap[q]? = s.heap[q]?) (h : am_K G s) : am_K G U := by
  obtain ⟨h1, h2, ⟨h3, h4, h5⟩, h6, ⟨a1, a2⟩, ⟨b1, b2⟩, ⟨c1, c2⟩, d1, d2⟩ := h
  have hA := hW.alike
  refine ⟨va_K.moved hA h1, am_nwarm hW h2, ⟨va_AO.moved hA h3, va_AO.moved hA h4, va_AO.moved hA h5⟩, Nat.le_trans h6 hz, ⟨?_, a2⟩, ⟨(va_Z.moved hA b1).kept hk, (va_T.moved hA b2).kept hk⟩, ⟨(vk_S.moved hA c1).kept hk, fun i o x t hi => vk_R.warm hW (c2 i o x t hi)⟩, (va_Z.moved hA d1).kept hk, d2.imp (fun z => (va_Z.moved hA z).kept hk) (fun z => (va_Z.moved hA z).kept hk)⟩
  refine (va_X.moved hA a1).kept (hk _ ?_ a2)
  exact Nat.lt_of_lt_of_le (Nat.not_le.mp a2) h6
theorem am_K.call {G : am_G} {U : State} {g : JFrame} {mk : MethodId} {a : Array Value} (h : am_K G U) : am_K G (U.calling g mk a) := by
  obtain ⟨h1, h2, ⟨h3, h4, h5⟩, h6, ⟨a1, a2⟩, ⟨b1, b2⟩, ⟨c1, c2⟩, d1, d2⟩ := h
  have hA : U.vm.Alike (U.calling g mk a).vm := Vm.Alike.refl U.vm
  have hk : ∀ q : Nat, q < U.heap.size → ¬ am_A G q → (U.calling g mk a).heap[q]? = U.heap[q]? := fun _ _ _ => rfl
  exact ⟨va_K.moved hA h1, fun w hw => va_Nw.same (u := U) (U := U.calling g mk a) (am_nont w hw) rfl (h2 w hw), ⟨va_AO.moved hA h3, va_AO.moved hA h4, va_AO.moved hA h5⟩, h6, ⟨va_X.moved hA a1, a2⟩, ⟨va_Z.moved hA b1, va_T.moved hA b2⟩, ⟨vk_S.moved hA c1, fun i o x t hi => vk_R.same (u := U) (U := U.calling g mk a) rfl (c2 i o x t hi)⟩, va_Z.moved hA d1, d2.imp (va_Z.moved hA) (va_Z.moved hA)⟩
/-! a frame's run -/
def am_Cx (G : am_G) (M : am_Mi) (p : Program) (s : State) (m : MethodId) (args : Array Value) (meth : Method) (c : Code) : Prop := p.tables.exec = Jvm.exec ∧ c.code = M.2.1 ∧ c.maxLocals = M.2.2.1 ∧ s.vm.findClass M.1.cls = some m.cls ∧ (∀ w ∈ am_tbl, w.before args s = true) ∧ am_K G s ∧ meth.name = M.1.name
def am_ret (M : am_Mi) (pc : Nat) (v : Option Value) : Prop := match v with
  | none => M.2.2.2 = none ∧ decode M.2.1 pc = .ok (.return_, 1)
  | some (.int x) => decode M.2.1 pc = .ok (.ireturn, 1) ∧ ∃ ty, M.2.2.2 = some ty ∧ narrow ty (.int x) = .int x
  | some (.long _) => M.2.2.2 = some .long ∧ decode M.2.1 pc = .ok (.lreturn, 1)
  | some (.ref _) => decode M.2.1 pc = .ok (.areturn, 1) ∧ ∃ ty, M.2.2.2 = some ty ∧ ((∃ n, ty = .object n) ∨ ∃ t, ty = .array t)
  | some .null => decode M.2.1 pc = .ok (.areturn, 1) ∧ ∃ ty, M.2.2.2 = some ty ∧ ((∃ n, ty = .object n) ∨ ∃ t, ty = .array t)
  | _ => False
def am_Rt (G : am_G) (M : am_Mi) (R : Room) (kx nx : Nat) (Q : Option Value → am_M → Prop) (p : Program) (e : Env) (s : State) (m : MethodId) (args : Array Value) (below : List Frame) (meth : Method) (c : Code) (Z : State → Prop) : Prop :=
  ∀ (v : Option Value) (σ : am_M) (H : Heap) (locs : List Loc) (pc : Nat) (ls : Array Slot) (k n : Nat), Q v σ → am_H G σ H → va_S (am_A G) s.heap H locs → k ≤ kx → n ≤ nx → am_ret M pc v → W p G.1 e R s m args below meth c H locs k n Z (F0 m pc ls (v.toList.map (am_rv G)))
def am_rl (G : am_G) (lv : List (Nat × Value)) : List (Nat × Value) := lv.map (fun q => (q.1, am_rv G q.2))
def am_Ev (G : am_G) (M : am_Mi) (R : Room) (kx nx : Nat) (Q : Option Value → am_M → Prop) (pc : Nat) (lv : List (Nat × Value)) (st : List Value) (σ : am_M) (k n : Nat) : Prop :=
  ∀ (p : Program) (e : Env) (s : State) (m : MethodId) (args : Array Value) (below : List Frame) (meth : Method) (c : Code) (Z : State → Prop) (H : Heap) (locs : List Loc) (ls : Array Slot), am_Cx G M p s m args meth c → am_Rt G M R kx nx Q p e s m args below meth c Z → am_H G σ H → va_S (am_A G) s.heap H locs → lv_has ls M.2.2.1 (am_rl G lv) → W p G.1 e R s m args below meth c H locs k n Z (F0 m pc ls (st.map (am_rv G)))
def am_R (D kx nx : Nat) : Room := { frames := D, cells := kx, slots := nx, locals := 64 * D }
def am_Qc (G : am_G) (Q : Option Value → am_M → Prop) : Array Value → State → Outcome → State → Prop := fun _ st o t => (∃ (v : Option Value) (σ : am_M), o = .returned (v.map (am_rv G)) ∧ Q v σ ∧ am_H G σ t.heap) ∧ va_F (am_A G) st t
def am_Pc (G : am_G) (as : List Value) (σ : am_M) : Array Value → State → Prop := fun v U => v = (as.map (am_rv G)).toArray ∧ am_H G σ U.heap ∧ am_K G U
def am_Mt (G : am_G) (D : Nat) (M : am_Mi) (as : List Value) (σ : am_M) (kx nx : Nat) (Q : Option Value → am_M → Prop) : Prop := Met G.1 M.1 (am_code M :: am_tbl) (am_R D kx nx) (am_Pc G as σ) (am_Qc G Q) kx nx (am_A G)
/-! locals -/
def am_lk : List (Nat × Value) → Nat → Option Value
  | [], _ => none
  | q :: t, i => bif Nat.beq q.1 i then some q.2 else am_lk t i
def am_ins : List (Nat × Value) → Nat → Value → List (Nat × Value)
  | [], i, v => [(i, v)]
  | q :: t, i, v => bif Nat.blt i q.1 then (i, v) :: q :: t else q :: am_ins t i v
def am_st1 (l : List (Nat × Value)) (i : Nat) (v : Value) : List (Nat × Value) := am_ins (l.filter (fun q => !(q.1 == i) && !(q.1 + 1 == i && q.2.category == 2))) i v
def am_st2 (l : List (Nat × Value)) (i : Nat) (v : Value) : List (Nat × Value) := am_ins (l.filter (fun q => !(q.1 == i) && (!(q.1 == i + 1) && !(q.1 + 1 == i && q.2.category == 2)))) i v
def am_kp (l : List (Nat × Value)) (is : List Nat) : List (Nat × Value) := l.filter (fun q => is.contains q.1)
theorem am_insm {l : List (Nat × Value)} {i : Nat} {v : Value} : ∀ q ∈ am_ins l i v, q ∈ (i, v) :: l := by
  induction l with
  | nil => intro q h; exact h
  | cons a t ih =>
    intro q h
    unfold am_ins at h
    cases hb : Nat.blt i a.1 with
    | true => rw [hb] at h; exact h
    | false =>
      rw [hb] at h
      rcases List.mem_cons.mp h with h | h
      · exact List.mem_cons_of_mem _ (List.mem_cons.mpr (Or.inl h))
      · rcases List.mem_cons.mp (ih q h) with h | h
        · exact List.mem_cons.mpr (Or.inl h)
        · exact List.mem_cons_of_mem _ (List.mem_cons_of_mem _ h)
theorem am_lkm {l : List (Nat × Value)} {i : Nat} {v : Value} (h : am_lk l i = some v) : (i, v) ∈ l := by
  induction l with
  | nil => cases h
  | cons a t ih =>
    unfold am_lk at h
    cases hb : Nat.beq a.1 i with
    | true =>
      rw [hb] at h
      cases h
      have e : a.1 = i := Nat.eq_of_beq_eq_true hb
      subst e
      exact List.mem_cons_self
    | false => rw [hb] at h; exact List.mem_cons_of_mem _ (ih h)
theorem am_rvc {G : am_G} (v : Value) : (am_rv G v).category = v.category := by cases v <;> rfl
theorem am_lvat {G : am_G} {ls : Array Slot} {nL : Nat} {lv : List (Nat × Value)} (h : lv_has ls nL (am_rl G lv)) {i : Nat} {v : Value} (hk : am_lk lv i = some v) : ls[i]? = some (.val (am_rv G v)) := h.2.2 (i, am_rv G v) (List.mem_map.mpr ⟨(i, v), am_lkm hk, rfl⟩)
theorem am_lvsub {G : am_G} {ls : Array Slot} {nL : Nat} {l l' : List (Nat × Value)} (h : lv_has ls nL (am_rl G l)) (hs : ∀ q ∈ l', q ∈ l) : lv_has ls nL (am_rl G l') := by
  refine ⟨h.1, h.2.1, fun q hq => ?_⟩
  obtain ⟨a, ha, rfl⟩ := List.mem_map.mp hq
  exact h.2.2 _ (List.mem_map.mpr ⟨a, hs a ha, rfl⟩)
theorem am_fl1 {G : am_G} {l : List (Nat × Value)} {i : Nat} : (am_rl G l).filter (fun q => !(q.1 == i) && !(q.1 + 1 == i && q.2.category == 2)) = am_rl G (l.filter (fun q => !(q.1 == i) && !(q.1 + 1 == i && q.2.category == 2))) := by
  unfold am_rl
  rw [List.filter_map]
  congr 1
  congr 1
  funext q
  simp [Function.comp, am_rvc]
theorem am_fl2 {G : am_G} {l : List (Nat × Value)} {i : Nat} : (am_rl G l).filter (fun q => !(q.1 == i) && (!(q.1 == i + 1) && !(q.1 + 1 == i && q.2.category == 2))) = am_rl G (l.filter (fun q => !(q.1 == i) && (!(q.1 == i + 1) && !(q.1 + 1 == i && q.2.category == 2)))) := by
  unfold am_rl
  rw [List.filter_map]
  congr 1
  congr 1
  funext q
  simp [Function.comp, am_rvc]
theorem am_s1 {G : am_G} {ls : Array Slot} {nL : Nat} {l l' : List (Nat × Value)} {i : Nat} {v : Value} (e : am_st1 l i v = l') (h : lv_has ls nL ((i, am_rv G v) :: (am_rl G l).filter (fun q => !(q.1 == i) && !(q.1 + 1 == i && q.2.category == 2)))) : lv_has ls nL (am_rl G l') := by
  rw [am_fl1] at h
  subst e
  exact am_lvsub (l := (i, v) :: l.filter (fun q => !(q.1 == i) && !(q.1 + 1 == i && q.2.category == 2))) h (fun q hq => am_insm q hq)
theorem am_s2 {G : am_G} {ls : Array Slot} {nL : Nat} {l l' : List (Nat × Value)} {i : Nat} {v : Value} (e : am_st2 l i v = l') (h : lv_has ls nL ((i, am_rv G v) :: (am_rl G l).filter (fun q => !(q.1 == i) && (!(q.1 == i + 1) && !(q.1 + 1 == i && q.2.category == 2))))) : lv_has ls nL (am_rl G l') := by
  rw [am_fl2] at h
  subst e
  exact am_lvsub (l := (i, v) :: l.filter (fun q => !(q.1 == i) && (!(q.1 == i + 1) && !(q.1 + 1 == i && q.2.category == 2)))) h (fun q hq => am_insm q hq)
theorem am_args {G : am_G} : ∀ (i : Nat) (as : List Value), lv_args i (as.map (am_rv G)) = am_rl G (lv_args i as) := by
  intro i as
  induction as generalizing i with
  | nil => rfl
  | cons v t ih =>
    show (i, am_rv G v) :: lv_args (if (am_rv G v).category = 2 then i + 2 else i + 1) (t.map (am_rv G)) = (i, am_rv G v) :: am_rl G (lv_args (if v.category = 2 then i + 2 else i + 1) t)
    rw [am_rvc, ih]
