/-! THE CLAIM OUT OF ONE WALK OF THE LAW'S BODY. Your part is whole_start (and what it stands on); all else here is the same for every law, but numbers. -/
def R_law : String := "QuestionsInAnInnLaw"
def lw_P (b : Addr) (xs : List Int32) (args : Array Value) (s : State) : Prop := args = #[.ref b] ∧ s.IntsAt b xs ∧ xs.length ≤ 3584 ∧ (Jvm.Cond.and given_1 narrow_1).before args s = true
def lw_Q (_ : Array Value) (s : State) (o : Outcome) (t : State) : Prop := o = .returned (some (.int 1)) ∧ Framed s o t [] 659291 7124374
def lw_Z (below : List Frame) (a : Array Value) (s : State) : State → Prop := fun t => ∃ o, t.status = .running ∧ Ended t below o ∧ lw_Q a s o t
/-- the law's own end, with 1 on the stack, nothing written that was there before, its room as the claim has it -/
theorem lw_ret {p : Program} {l : Launch} {e : Env} {s : State} {m : MethodId} {below : List Frame} {meth : Method} {c : Code} {b : Nat} (hx : p.tables.exec = Jvm.exec) (hb : c.code = code) (hr : meth.sig.returnType = ret) (hlocks : meth.locks = false) {pc : Nat} {H : Heap} {ls : Array Slot} (hdg : decode code pc = .ok (.ireturn, 1)) : W p l e room_1 s m #[Value.ref b] below meth c H [] 659291 7124374 (lw_Z below #[Value.ref b] s) (F0 m pc ls [.int 1]) := by
  intro T hT X
  obtain ⟨fs, hret, hrun, hended, hW, hframe⟩ := X.leave (v := some (.int 1)) (hlocks := hlocks) (fun h => by rw [hr] at h; cases h)
  have hmeth' : T.vm.method? m = some meth := X.method'
  refine ⟨T.setFrames fs, ?_, .returned (some (.int 1)), hrun, hended, rfl, ⟨_, rfl⟩, hW, hframe⟩
  jvm_step X.here [X.here.top, hx, hb, hdg, hmeth', hr, ret, narrow_b1]
  (try refine ⟨rfl, ?_⟩); (try refine ⟨rfl, ?_⟩)
  first | (intro acts; rw [hret _ acts rfl rfl rfl]) | rw [hret _ _ rfl rfl rfl]
  exact Steps.refl _
/-- what holds at the law's entry: the machine, the code, the tables' words (any of lw_tbl by 'hts w (by decide +kernel)'), the script of L ints xs at the cell b, what the Statement gives of the start (any of its parts by flat_of_before) -/
def lw_At (p : Program) (s : State) (m : MethodId) (meth : Method) (c : Code) (b L : Nat) (xs : Nat → Int32) : Prop :=
  p.tables.exec = Jvm.exec ∧ c.code = code ∧ meth.sig.returnType = ret ∧ c.maxLocals = 4 ∧ s.vm.findClass R_law = some m.cls ∧ (∀ w ∈ lw_tbl, w.before #[Value.ref b] s = true) ∧ va_X b L xs s s.heap ∧ b < s.heap.size ∧ meth.locks = false ∧ (Jvm.Cond.and given_1 narrow_1).before #[Value.ref b] s = true
/-! what stands at the law's entry -/
def sx_o (i : Nat) : String × Nat × String := am_So.getD i (RX6, 0, "")
def sx_t (i : Nat) : Term := .string (sx_o i).1 (sx_o i).2.1
def sx_b (i : Nat) : Nat := ([42, 96, 106, 117, 128, 141, 155, 168, 181, 196, 212, 232, 253] : List Nat).getD i 0
def sx_f : List Cond := flatC (Jvm.Cond.and given_1 narrow_1)
def sx_w (i : Nat) : Nat := ([202, 281, 286, 287, 288, 289, 290, 291, 292, 293, 294, 295, 296] : List Nat).getD i 0
theorem sx_1 : ∀ i, i < 13 → sx_f[sx_b i]? = some (Cond.exactly (sx_t i) "java/lang/String") := by decide +kernel
theorem sx_2 : ∀ i, i < 13 → sx_f[sx_b i + 1]? = some (Cond.eq (.field (sx_t i) "java/lang/String" "coder" "B") (.int 0)) := by decide +kernel
theorem sx_3 : ∀ i, i < 13 → sx_f[sx_b i + 2]? = some (Cond.arrayOf (.field (sx_t i) "java/lang/String" "value" "[B") .byte) := by decide +kernel
theorem sx_4 : ∀ i, i < 13 → sx_f[sx_b i + 3]? = some (Cond.eq (.length (.field (sx_t i) "java/lang/String" "value" "[B")) (.int (Int32.ofNat (am_Sl.getD i 0)))) := by decide +kernel
theorem sx_5 : ∀ i, i < 13 → ∀ j, j < am_Sl.getD i 0 → sx_f[sx_b i + 4 + j]? = some (Cond.eq (.elem (.field (sx_t i) "java/lang/String" "value" "[B") (.int (Int32.ofNat j))) (.int ((am_Sb.getD i []).getD j 0))) := by decide +kernel
theorem sx_6 : ∀ j, j < 13 → ∀ i, i < j → sx_f[sx_b j + 4 + am_Sl.getD j 0 + i]? = some (Cond.not (Cond.eq (sx_t i) (sx_t j))) := by decide +kernel
theorem sx_7 : ∀ j, j < 6 → sx_f[12 + j]? = some (Cond.eq (.elem (.static RX1 "KIND_ABOVE" "[I") (.int (Int32.ofNat j))) (.int (am_ka j))) := by decide +kernel
theorem sx_8 : sx_f[10]? = some (Cond.arrayOf (.static RX1 "KIND_ABOVE" "[I") .int) ∧ sx_f[11]? = some (Cond.eq (.length (.static RX1 "KIND_ABOVE" "[I")) (.int (Int32.ofNat 6))) ∧ sx_f[4]? = some (Cond.eq (.static "java/lang/String" "COMPACT_STRINGS" "Z") (.int 1)) ∧ sx_f[5]? = some (Cond.isRef (.static "jdk/internal/util/Preconditions" "SIOOBE_FORMATTER" "Ljava/util/function/BiFunction;")) := by decide +kernel
theorem sx_9 : ∀ i, i < 13 → lw_tbl[sx_w i]? = some (Cond.stringRef (sx_o i).1 (sx_o i).2.1 (sx_o i).2.2) := by decide +kernel
theorem sx_x : lw_tbl[95]? = some (Cond.arrayOver (.object RX1)) ∧ lw_tbl[97]? = some (Cond.arrayOver (.object RX5)) ∧ lw_tbl[130]? = some (Cond.arrayOver (.object RX3)) ∧ lw_tbl[216]? = some (Cond.laysStatic "java/lang/String" "COMPACT_STRINGS" "Z") ∧ lw_tbl[232]? = some (Cond.laysStatic "jdk/internal/util/Preconditions" "SIOOBE_FORMATTER" "Ljava/util/function/BiFunction;") ∧ lw_tbl[602]? = some (Cond.laysStatic RX1 "KIND_ABOVE" "[I") ∧ lw_tbl[75]? = some (Cond.initialized "java/lang/String") ∧ lw_tbl[77]? = some (Cond.initialized "jdk/internal/util/Preconditions") := by decide +kernel
def sx_u (s : State) (k : Nat) (q : ClassId × (Nat → Nat)) : Prop := ∀ r : vw_C, vwCl[k]? = some r → u_Kn s r.1 r.2.1 r.2.2 q.1 q.2
theorem sx_k {s : State} {args : Array Value} (hts : ∀ w ∈ am_tbl, w.before args s = true) : ∀ k : Nat, ∃ q : ClassId × (Nat → Nat), sx_u s k q := by
  intro k
  match k with
  | 0 =>
    obtain ⟨c, i, h⟩ := u_known (C := RX0) (T := TX0) (N := 5) (n := 5) hts am_u0 (hts _ am_ib0)
    exact ⟨(c, i), fun r hr => by cases hr; exact h⟩
  | 1 =>
    obtain ⟨c, i, h⟩ := u_known (C := RX1) (T := TX1) (N := 5) (n := 5) hts am_u1 (hts _ am_ib1)
    exact ⟨(c, i), fun r hr => by cases hr; exact h⟩
  | 2 =>
    obtain ⟨c, i, h⟩ := u_known (C := RX2) (T := TX2) (N := 7) (n := 7) hts am_u2 (hts _ am_ib2)
    exact ⟨(c, i), fun r hr => by cases hr; exact h⟩
  | 3 =>
    obtain ⟨c, i, h⟩ := u_known (C := RX3) (T := TX3) (N := 3) (n := 3) hts am_u3 (hts _ am_ib3)
    exact ⟨(c, i), fun r hr => by cases hr; exact h⟩
  | 4 =>
    obtain ⟨c, i, h⟩ := u_known (C := RX4) (T := TX4) (N := 7) (n := 7) hts am_u4 (hts _ am_ib4)
    exact ⟨(c, i), fun r hr => by cases hr; exact h⟩
  | 5 =>
    obtain ⟨c, i, h⟩ := u_known (C := RX5) (T := TX5) (N := 4) (n := 4) hts am_u5 (hts _ am_ib5)
    exact ⟨(c, i), fun r hr => by cases hr; exact h⟩
  | 6 =>
    obtain ⟨c, i, h⟩ := u_known (C := RX6) (T := TX6) (N := 16) (n := 16) hts am_u6 (hts _ am_ib6)
    exact ⟨(c, i), fun r hr => by cases hr; exact h⟩
  | 7 =>
    obtain ⟨c, i, h⟩ := u_known (C := RX7) (T := TX7) (N := 39) (n := 39) hts am_u7 (hts _ am_ib7)
    exact ⟨(c, i), fun r hr => by cases hr; exact h⟩
  | k + 8 =>
    obtain ⟨c, i, -⟩ := u_known (C := RX0) (T := TX0) (N := 5) (n := 5) hts am_u0 (hts _ am_ib0)
    exact ⟨(c, i), fun r hr => by simp at hr⟩
/-- the types of the arrays -/
def sx_ty (k : Nat) : FieldType := match k with
  | 0 => .int
  | 1 => .object RX1
  | 2 => .object RX5
  | _ => .object RX3
theorem sx_ao {s : State} {args : Array Value} {C : String} (h : (Cond.arrayOver (.object C)).before args s = true) : ∃ c : ClassId, ArrOfT s c (.object C) ∧ va_RA s c (.object C) := by
  obtain ⟨comp, c, k, h1, h2, h3, h4, h5⟩ := Cond.arrayOver_spec h
  exact ⟨c, fun n z => ⟨fun k h => (by cases h), k, h3, comp, h4⟩, k, comp, h3, h4, h1, h5⟩
theorem sx_ai {s : State} {args : Array Value} (h : (Cond.arrayClass .int).before args s = true) : ∃ c : ClassId, ArrOfT s c .int ∧ va_RA s c .int := by
  obtain ⟨c, k, comp, h1, h2, h3⟩ := Cond.arrayClass_spec h
  exact ⟨c, fun n z => ⟨fun k h => (by cases h), k, h2, comp, h3⟩, h1⟩
theorem sx_a {s : State} {args : Array Value} (hts : ∀ w ∈ lw_tbl, w.before args s = true) : ∀ k : Nat, ∃ c : ClassId, ArrOfT s c (sx_ty k) ∧ va_RA s c (sx_ty k) := by
  intro k
  match k with
  | 0 => exact sx_ai (hts _ (am_sub _ am_ai))
  | 1 => exact sx_ao (hts _ (List.mem_of_getElem? sx_x.1))
  | 2 => exact sx_ao (hts _ (List.mem_of_getElem? sx_x.2.1))
  | k + 3 => exact sx_ao (hts _ (List.mem_of_getElem? sx_x.2.2.1))
def sx_g (b t f : Nat) (u v : Nat → Nat) : Nat → Nat := fun i => if i = 0 then b else if i = 1 then t else if i < 15 then u (i - 2) else if i < 28 then v (i - 15) else f
set_option maxHeartbeats 400000 in
theorem sx_K {s : State} {b L : Nat} {xs : Nat → Int32} (l : Launch) (hts : ∀ w ∈ lw_tbl, w.before #[Value.ref b] s = true) (hX : va_X b L xs s s.heap) (hbl : b < s.heap.size) (hgv : (Jvm.Cond.and given_1 narrow_1).before #[Value.ref b] s = true) : ∃ G : am_G, G.1 = l ∧ G.2.2.2.1 = s.heap.size ∧ G.2.2.2.2.1 0 = b ∧ G.2.2.2.2.2.1 = L ∧ am_K G s := by
  have hs : ∀ w ∈ sx_f, w.before #[Value.ref b] s = true := flat_of_before _ hgv
  have hsi : ∀ {i : Nat} {w : Cond}, sx_f[i]? = some w → w.before #[Value.ref b] s = true := fun h => hs _ (List.mem_of_getElem? h)
  have hti : ∀ {i : Nat} {w : Cond}, lw_tbl[i]? = some w → w.before #[Value.ref b] s = true := fun h => hts _ (List.mem_of_getElem? h)
  have hta : ∀ w ∈ am_tbl, w.before #[Value.ref b] s = true := fun w h => hts w (am_sub w h)
  have hA : ∀ a : Nat, a < s.heap.size → ¬ (fun q : Nat => s.heap.size ≤ q) a := fun a h => Nat.not_le.mpr h
  obtain ⟨fK, hfK⟩ := Classical.axiomOfChoice (sx_k hta)
  obtain ⟨fA, hfA⟩ := Classical.axiomOfChoice (sx_a hts)
  obtain ⟨u, v, ⟨hS1, hS2⟩, hS3⟩ := vk_Sof (s := s) (args := #[Value.ref b]) (N := 13) (tm := sx_t) (len := am_Sl) (byt := am_Sb) (A := fun q : Nat => s.heap.size ≤ q) (by decide +kernel) (fun i hi => hsi (sx_1 i hi)) (fun i hi => hsi (sx_2 i hi)) (fun i hi => hsi (sx_3 i hi)) (fun i hi => hsi (sx_4 i hi)) (fun i hi j hj => hsi (sx_5 i hi j hj)) (fun i j hi hj hij => by
    rcases Nat.lt_or_gt_of_ne hij with h | h
    · exact Or.inl (hsi (sx_6 j hj i h))
    · exact Or.inr (hsi (sx_6 i hi j h))) hA
  obtain ⟨t, ht, hT⟩ := va_Tof (s := s) (args := #[Value.ref b]) (tm := .static RX1 "KIND_ABOVE" "[I") (ty := .int) (N := 6) (f := fun j => .int (am_ka j)) (A := fun q : Nat => s.heap.size ≤ q) (by decide) (hsi sx_8.1) (va_eqt (hsi sx_8.2.1)) (fun j hj => va_eqt (hsi (sx_7 j hj))) hA
  have hZ1 : va_Z RX1 "KIND_ABOVE" "[I" (.ref t) (fun q : Nat => s.heap.size ≤ q) s s.heap := va_Zof (hti sx_x.2.2.2.2.2.1) (hta _ am_in1) ht hA
  have hZ2 : va_Z "java/lang/String" "COMPACT_STRINGS" "Z" (.int 1) (fun q : Nat => s.heap.size ≤ q) s s.heap := va_Zof (hti sx_x.2.2.2.1) (hti sx_x.2.2.2.2.2.2.1) (va_eqt (hsi sx_8.2.2.1)) hA
  have hZ3 : va_Zq "jdk/internal/util/Preconditions" "SIOOBE_FORMATTER" "Ljava/util/function/BiFunction;" (fun q : Nat => s.heap.size ≤ q) s s.heap := va_Zqof (hti sx_x.2.2.2.2.1) (hti sx_x.2.2.2.2.2.2.2) (hsi sx_8.2.2.2) hA
  have key : ∀ f : Nat, (va_Z "jdk/internal/util/Preconditions" "SIOOBE_FORMATTER" "Ljava/util/function/BiFunction;" .null (fun q : Nat => s.heap.size ≤ q) s s.heap ∨ va_Z "jdk/internal/util/Preconditions" "SIOOBE_FORMATTER" "Ljava/util/function/BiFunction;" (.ref f) (fun q : Nat => s.heap.size ≤ q) s s.heap) → am_K (l, (fun k => (fK k).1, fun k => (fK k).2), fA, s.heap.size, sx_g b t f u v, L, xs) s := by
    intro f hf
    refine ⟨⟨fun k r hr => hfK k r hr, fun k q hq => ?_⟩, fun w hw => va_tabs (am_nont w hw) rfl (hts w (am_nestok w hw)), ⟨va_AO.of (hti sx_x.1), va_AO.of (hti sx_x.2.1), va_AO.of (hti sx_x.2.2.1)⟩, Nat.le_refl _, ⟨hX, Nat.not_le.mpr hbl⟩, ⟨hZ1, hT⟩, ⟨⟨fun i hi => ?_, fun i j hi hj e => ?_⟩, fun i o x tx hi => ?_⟩, hZ2, hf⟩
    · match k, hq with
      | 0, hq => cases hq; exact hfA 0
      | 1, hq => cases hq; exact hfA 1
      | 2, hq => cases hq; exact hfA 2
      | 3, hq => cases hq; exact hfA 3
      | k + 4, hq => simp [am_ts] at hq
    · have e1 : sx_g b t f u v (2 + i) = u i := by
        unfold sx_g
        rw [if_neg (by omega), if_neg (by omega), if_pos (by omega), Nat.add_sub_cancel_left]
      have e2 : sx_g b t f u v (15 + i) = v i := by
        unfold sx_g
        rw [if_neg (by omega), if_neg (by omega), if_neg (by omega), if_pos (by omega), Nat.add_sub_cancel_left]
      have h := hS1 i hi
      rw [← e1, ← e2] at h
      exact h
    · have e1 : ∀ i, i < 13 → sx_g b t f u v (2 + i) = u i := fun i hi => by
        unfold sx_g
        rw [if_neg (by omega), if_neg (by omega), if_pos (by omega), Nat.add_sub_cancel_left]
      exact hS2 i j hi hj ((e1 i hi).symm.trans (e.trans (e1 j hj)))
    · have h13 : i < 13 := (List.getElem?_eq_some_iff.mp hi).1
      have e1 : sx_g b t f u v (2 + i) = u i := by
        unfold sx_g
        rw [if_neg (by omega), if_neg (by omega), if_pos (by omega), Nat.add_sub_cancel_left]
      have eo : sx_o i = (o, x, tx) := by
        unfold sx_o
        rw [List.getD_eq_getElem?_getD, hi]; rfl
      have h1 := hti (sx_9 i h13)
      have h2 := hS3 i h13
      unfold sx_t at h2
      rw [eo] at h1 h2
      show vk_R o x tx (sx_g b t f u v (2 + i)) s
      rw [e1]
      exact vk_R.of h1 h2
  rcases hZ3 with hz | ⟨f, hz⟩
  · exact ⟨_, rfl, rfl, rfl, rfl, key 0 (Or.inl hz)⟩
  · exact ⟨_, rfl, rfl, rfl, rfl, key f (Or.inr hz)⟩
set_option maxHeartbeats 1000000 in
set_option maxRecDepth 100000 in
/-- THE LAW, from its entry -/
theorem whole_start {p : Program} {e : Env} {s : State} {m : MethodId} {below : List Frame} {meth : Method} {c : Code} (l : Launch) (hflags : l.flags = flags0) {b L : Nat} {xs : Nat → Int32} (hL : L ≤ 3584) (C0 : lw_At p s m meth c b L xs) : W p l e room_1 s m #[Value.ref b] below meth c s.heap [] 0 0 (lw_Z below #[Value.ref b] s) (entryFrame m ([Value.ref b] : List Value).toArray 4) := by
  obtain ⟨hx, hb, hr, hml, hown, hts, hX, hbl, hlocks, hgv⟩ := C0
  obtain ⟨G, rfl, e2, e3, e4, hK⟩ := sx_K l hts hX hbl hgv
  have hl := lv_entry ([.ref b]) (n := 4) (Nat.le_of_ble_eq_true rfl)
  rw [lg_entry_eq]
  generalize (lg_sl ([.ref b]) ++ List.replicate (4 - (lg_sl ([.ref b])).length) Slot.unset).toArray = ls at hl ⊢
  have hl : lv_has ls 4 [(0, .ref b)] := hl
  have h0 : am_rl G [(0, .ref 0)] = [(0, .ref b)] := by
    show [(0, Value.ref (G.2.2.2.2.1 0))] = _
    rw [e3]
  rw [← h0] at hl
  refine law_run (G := G) (nm := meth.name) (by omega) p e s m #[Value.ref b] below meth c (lw_Z below #[Value.ref b] s) s.heap [] ls ⟨hx, hb, hml, hown, fun w hw => hts w (am_sub w hw), hK, rfl⟩ (fun v σ H locs pc ls k n hv hH hS hk hn hd => ?_) ⟨by decide, by decide, ?_, ?_⟩ va_S.rf hl
  · cases hv
    have hfl : ∀ q ∈ locs, s.heap.size ≤ q.base := fun q hq => by rw [← e2]; exact hS.2.2 q hq
    exact va_forget hfl (W.widen hk hn (lw_ret hx hb hr hlocks hd.1))
  · rw [e2]; rfl
  · intro k q h
    have : (am_ws G (ly_K.take 32, fun _ _ => 0, fun _ _ => none)) = [] := rfl
    rw [this] at h
    simp at h
-- ===== YOUR PART ENDS =====
set_option maxHeartbeats 4000000 in
theorem lw_walk (l : Launch) (hflags : l.flags = flags0) (b : Addr) (xs : List Int32) : MetFree l x (headSpec (Jvm.Cond.code x code maxLocals ret :: tables_1) room_1) (lw_P b xs) (fun _ _ _ _ _ => True) lw_Q := by
  refine MetFree.of_bodyS (code := code) (maxLocals := maxLocals) (ret := ret) (by decide) ?_ ?_
  · intro args s m h hn
    obtain ⟨meth, c, h1, h2, h3, h4, h5, h6, -, -⟩ := Cond.code_spec hn (atoms_spec (ws := Jvm.Cond.code x code maxLocals ret :: tables_1) h _ List.mem_cons_self)
    exact ⟨meth, c, h1, h2, h3, h4, h5, h6⟩
  · intro p e s m args below meth c s₁ B hml0 hP _
    obtain ⟨rfl, hx, hbd, hgv⟩ := hP
    obtain ⟨scr, harrAt, hlist, hof, hsmall⟩ := hx
    obtain ⟨hcb, hkn, -, -⟩ := State.arrayAt?_spec harrAt
    have hown : s.vm.findClass R_law = some m.cls := findClass_of_methodNamed B.named
    have hts0 : ∀ c ∈ (Jvm.Cond.code x code maxLocals ret :: tables_1), c.before #[Value.ref b] s = true := atoms_spec (ws := Jvm.Cond.code x code maxLocals ret :: tables_1) B.pre
    have hts : ∀ w ∈ lw_tbl, w.before #[Value.ref b] s = true := k2_hts_sels lw_privs (fun w hw => hts0 w (List.mem_cons_of_mem _ hw)) lw_privs_ok
    have hml : c.maxLocals = 4 := B.maxLocals_eq (hts0 _ List.mem_cons_self)
    have X₀ : Stand p l e room_1 s m #[Value.ref b] below meth c s₁ [] 0 0 := Stand.of_body B
    have hh0 : s₁.heap = s.heap := by rw [B.state]; rfl
    have hsz : scr.slots.size = xs.length := by rw [← Array.length_toList, hlist, List.length_map]
    have hval : ∀ j : Nat, j < xs.length → scr.slots[j]? = some (.int (xs.getD j 0)) := fun j hj => by
      rw [← Array.getElem?_toList, hlist]
      simp [hj]
    have hbl : b < s.heap.size := (Array.getElem?_eq_some_iff.mp hcb).1
    have hX : va_X b xs.length (fun j => xs.getD j 0) s s.heap := ⟨scr, hcb, hof, hkn, hsz, hval⟩
    have K : W p l e room_1 s m #[Value.ref b] below meth c s₁.heap [] 0 0 (lw_Z below #[Value.ref b] s) (entryFrame m ([Value.ref b] : List Value).toArray 4) := by
      rw [hh0]
      exact whole_start l hflags hbd ⟨B.exec, B.bytes, B.returns, hml, hown, hts, hX, hbl, B.notSynchronized, hgv⟩
    obtain ⟨t, a1, o, b1, b2, b3⟩ := K s₁ rfl X₀
    exact ⟨t, o, a1, b1, b2, b3⟩
theorem lw_pre_spec {args : Array Value} {s : State} (h : (Jvm.Cond.and given_1 narrow_1).before args s = true) (hr : rest_1_c.before args s = true) : ∃ (b : Addr) (xs : List Int32), lw_P b xs args s := by
  have hs := flat_of_before _ h
  have hq := flat_of_before _ hr
  have hc : (Cond.count 1).before args s = true := hs _ (by decide +kernel)
  have harr : (Cond.arrayOf (.arg 0) .int).before args s = true := hs _ (by decide +kernel)
  have hle : (Cond.le (.length (.arg 0)) (.int 3584)).before args s = true := hs _ (by decide +kernel)
  have hlen : (Cond.isInt (.length (.arg 0))).before args s = true := hq _ (by decide +kernel)
  have hall : (Cond.all (.arg 0) (.isInt (.elem (.arg 0) (.index 0)))).before args s = true := hq _ (by decide +kernel)
  obtain ⟨b, xs, hb, hx⟩ := State.ints_of_pre rfl harr hlen hall
  have hsm : xs.length < 2 ^ 31 := hx.choose_spec.2.2.2
  have hev : (Term.length (.arg 0)).eval args s none [] s = some (.int xs.length.toInt32) := hx.length_eval hb
  have hv := Cond.le_ints hev (show (Term.int 3584).eval args s none [] s = some (.int 3584) from rfl)
  have hd : xs.length.toInt32 ≤ 3584 := by
    simpa [Cond.before, Cond.holds, hv] using hle
  have hN : xs.length ≤ 3584 := (Int32.ofNat_le_ofNat hsm (by decide)).mp (show Int32.ofNat xs.length ≤ Int32.ofNat 3584 from hd)
  exact ⟨b, xs, Cond.one_arg hc (show args[0]? = some (.ref b) from hb), hx, hN, h⟩
theorem lw_comes (l : Launch) (hflags : l.flags = flags0) : Comes l x (Jvm.Cond.code x code maxLocals ret :: tables_1) room_1 (fun tb e args s => Calls_1 tb e args s ∧ rest_1 tb e args s ∧ Pre_1 tb e args s)
    (fun _ _ args s o t => lw_Q args s o t) := by
  intro p e ha hc hk s m args below hf hfit hheap happ hpre
  obtain ⟨b, xs, hP⟩ := lw_pre_spec hpre.2.2 hpre.2.1
  obtain ⟨k, o, h1, h2, h3, hQ⟩ := lw_walk l hflags b xs p e ha hc hk s m args below hf ((Spec.applies_iff_loose hf).mp happ).1 hP trivial
  exact ⟨k, o, h1, h2, h3, hQ⟩
theorem lw_frame {s t : State} {o : Outcome} {args : Array Value} (h : Framed s o t [] 659291 7124374) :
    Framed s o t (fieldLocs frame_1_writes args s ++ arrayLocs frame_1_arrays args s ++ staticLocs frame_1_statics s) 659291 7124374 := h
theorem lw_limb (L : Cond) (hL : ∀ (args : Array Value) (s t : State), L.after args s (.returned (some (.int 1))) t = true) :
    ArmFor flags0 classFile x code maxLocals ret World_1 tables_1 room_1 Calls_1 rest_1 Pre_1
      (fun tb e a s o t => postC L tb e a s o t ∧ Framed s o t (fieldLocs frame_1_writes a s ++ arrayLocs frame_1_arrays a s ++ staticLocs frame_1_statics s) 659291 7124374) := by
  intro l hflags _ _ p e ha hc hk s m args below hf hfit hheap happ hpre
  obtain ⟨k, o, h1, h2, h3, rfl, hF⟩ := lw_comes l hflags p e ha hc hk s m args below hf hfit hheap happ hpre
  exact ⟨k, _, h1, h2, h3, hL args s _, lw_frame hF⟩
theorem i_vc : Claimed_1_1 ∧ Claimed_1_2 := ⟨lw_limb limb_1_1 (fun args s t => by simp [limb_1_1, Cond.after, Cond.holds, Cond.value]), lw_limb limb_1_2 (fun args s t => Cond.after_iff.mpr (by
  first | (rw [show limb_1_2 = Cond.eq .result (.int 1) from rfl, Cond.eq_ints (x := 1) (y := 1) rfl rfl]; simp; done) | (simp [limb_1_2, Cond.value, Term.eval]; done)))⟩
