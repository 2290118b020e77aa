/-! the law: one case after the other, then the loop -/
def mL (nm : String) : am_Mi := (⟨RL, nm, "([I)Z"⟩, cL_law, 4, some .boolean)
def lw_M : Room := { frames := 2048, cells := 659291, slots := 7124374, locals := 84000 }
def lw_V (i : Nat) : List (Nat × Value) := [(0, .ref 0), (1, .ref 32), (2, .ref 65), (3, .int (nI i))]
def lw_T : Option Value → am_M → Prop := fun v _ => v = some (.int 1)
def lw_E (G : am_G) (nm : String) (pc : Nat) (lv : List (Nat × Value)) (σ : am_M) (k n : Nat) : Prop := am_Ev G (mL nm) lw_M 659291 7124374 lw_T pc lv [] σ k n
def lw_N (G : am_G) (nm : String) (i k n : Nat) : Prop := ∀ (B : am_S) (σ : am_M) (k' n' : Nat), lw_I B σ → k' ≤ k + 3 → n' ≤ n + 196 → lw_E G nm 1592 (lw_V i) σ k' n'
theorem lw_hc {k n a b : Nat} (hk : k + 3 ≤ 659291) (hn : n + 196 ≤ 7124374) (ha : a ≤ 3) (hb : b ≤ 196) : k + a ≤ lw_M.cells ∧ n + b ≤ lw_M.slots := by
  show k + a ≤ 659291 ∧ n + b ≤ 7124374
  omega
theorem lw_hc2 {k n a b : Nat} (hk : k + 3 ≤ 659291) (hn : n + 196 ≤ 7124374) (ha : a ≤ 3) (hb : b ≤ 196) : k + a + 0 ≤ lw_M.cells ∧ n + b + 0 ≤ lw_M.slots := by
  show k + a + 0 ≤ 659291 ∧ n + b + 0 ≤ 7124374
  omega

set_option maxHeartbeats 400000 in
set_option maxRecDepth 100000 in
theorem law_0 {G : am_G} {nm : String} {A : am_S} {σ : am_M} {i k n : Nat} (h : lw_I A σ) (hi : i + 7 ≤ G.2.2.2.2.2.1) (hL : G.2.2.2.2.2.1 < 2 ^ 31) (hk : k + 3 ≤ 659291) (hn : n + 196 ≤ 7124374) (next : lw_N G nm i k n) : lw_E G nm 208 (lw_V i) σ k n := by
  generalize e1 : G.2.2.2.2.2.2 (i + 1) = x1
  show am_Ev G (mL nm) lw_M 659291 7124374 lw_T 208 [(0, .ref 0), (1, .ref 32), (2, .ref 65), (3, .int (nI i))] [] σ k n
  refine ev_aload_n dL_law_208 rfl rfl ?_
  refine ev_aload_n dL_law_209 rfl rfl ?_
  refine ev_iload_n dL_law_210 rfl rfl ?_
  refine ev_iconst (v := nI 1) dL_law_211 (by decide) ?_
  refine ev_iadd (v := nI (i + 1)) dL_law_212 (nI_add _ _) ?_
  refine ev_sld (j := i + 1) (v := x1) dL_law_213 (am_ixn (by omega) hL) e1 ?_
  refine ev_callV (as := [.int x1]) (st := []) dL_law_214 mfX6_count lk_L_13 (ly_k h.2.2.1.ly 32 rfl) (by decide) rfl (c_X6_count G 0 A σ h.2.2.1 x1) rfl rfl (Nat.le_of_ble_eq_true rfl) ⟨Nat.le_of_ble_eq_true rfl, Nat.le_of_ble_eq_true rfl⟩ (lw_hc hk hn (by decide) (by decide)) ?_
  rintro _ _ ⟨rfl, rfl⟩
  have h3 : iv_M A σ := h.2.2.2
  refine ev_aload_n dL_law_217 rfl rfl ?_
  refine ev_aload_n dL_law_218 rfl rfl ?_
  refine ev_iload_n dL_law_219 rfl rfl ?_
  refine ev_iconst (v := nI 1) dL_law_220 (by decide) ?_
  refine ev_iadd (v := nI (i + 1)) dL_law_221 (nI_add _ _) ?_
  refine ev_sld (j := i + 1) (v := x1) dL_law_222 (am_ixn (by omega) hL) e1 ?_
  refine ev_callV (as := [.int x1]) (st := [.int (sp_count A x1)]) dL_law_223 mfX7_count lk_L_17 (ly_k h3.ly 65 rfl) (by decide) rfl (c_X7_count G 0 A σ h.1 h3 x1) rfl rfl (Nat.le_of_ble_eq_true rfl) ⟨Nat.le_of_ble_eq_true rfl, Nat.le_of_ble_eq_true rfl⟩ (lw_hc2 (a := 0) (b := 0) hk hn (by decide) (by decide)) ?_
  rintro _ _ ⟨rfl, rfl⟩
  refine ev_icmp_eq (tgt := 1592) dL_law_226 (by decide) (fun _ => ?_) (fun q => absurd rfl q)
  exact next A σ _ _ (h) (by omega) (by omega)

set_option maxHeartbeats 400000 in
set_option maxRecDepth 100000 in
theorem law_1 {G : am_G} {nm : String} {A : am_S} {σ : am_M} {i k n : Nat} (h : lw_I A σ) (hi : i + 7 ≤ G.2.2.2.2.2.1) (hL : G.2.2.2.2.2.1 < 2 ^ 31) (hk : k + 3 ≤ 659291) (hn : n + 196 ≤ 7124374) (next : lw_N G nm i k n) : lw_E G nm 231 (lw_V i) σ k n := by
  generalize e1 : G.2.2.2.2.2.2 (i + 1) = x1
  generalize e2 : G.2.2.2.2.2.2 (i + 2) = x2
  generalize e3 : G.2.2.2.2.2.2 (i + 3) = x3
  generalize e4 : G.2.2.2.2.2.2 (i + 4) = x4
  generalize e5 : G.2.2.2.2.2.2 (i + 5) = x5
  generalize e6 : G.2.2.2.2.2.2 (i + 6) = x6
  show am_Ev G (mL nm) lw_M 659291 7124374 lw_T 231 [(0, .ref 0), (1, .ref 32), (2, .ref 65), (3, .int (nI i))] [] σ k n
  refine ev_aload_n dL_law_231 rfl rfl ?_
  refine ev_aload_n dL_law_232 rfl rfl ?_
  refine ev_iload_n dL_law_233 rfl rfl ?_
  refine ev_iconst (v := nI 1) dL_law_234 (by decide) ?_
  refine ev_iadd (v := nI (i + 1)) dL_law_235 (nI_add _ _) ?_
  refine ev_sld (j := i + 1) (v := x1) dL_law_236 (am_ixn (by omega) hL) e1 ?_
  refine ev_aload_n dL_law_237 rfl rfl ?_
  refine ev_iload_n dL_law_238 rfl rfl ?_
  refine ev_iconst (v := nI 2) dL_law_239 (by decide) ?_
  refine ev_iadd (v := nI (i + 2)) dL_law_240 (nI_add _ _) ?_
  refine ev_sld (j := i + 2) (v := x2) dL_law_241 (am_ixn (by omega) hL) e2 ?_
  refine ev_aload_n dL_law_242 rfl rfl ?_
  refine ev_iload_n dL_law_243 rfl rfl ?_
  refine ev_iconst (v := nI 3) dL_law_244 (by decide) ?_
  refine ev_iadd (v := nI (i + 3)) dL_law_245 (nI_add _ _) ?_
  refine ev_sld (j := i + 3) (v := x3) dL_law_246 (am_ixn (by omega) hL) e3 ?_
  refine ev_aload_n dL_law_247 rfl rfl ?_
  refine ev_iload_n dL_law_248 rfl rfl ?_
  refine ev_iconst (v := nI 4) dL_law_249 (by decide) ?_
  refine ev_iadd (v := nI (i + 4)) dL_law_250 (nI_add _ _) ?_
  refine ev_sld (j := i + 4) (v := x4) dL_law_251 (am_ixn (by omega) hL) e4 ?_
  refine ev_aload_n dL_law_252 rfl rfl ?_
  refine ev_iload_n dL_law_253 rfl rfl ?_
  refine ev_iconst (v := nI 5) dL_law_254 (by decide) ?_
  refine ev_iadd (v := nI (i + 5)) dL_law_255 (nI_add _ _) ?_
  refine ev_sld (j := i + 5) (v := x5) dL_law_256 (am_ixn (by omega) hL) e5 ?_
  refine ev_aload_n dL_law_257 rfl rfl ?_
  refine ev_iload_n dL_law_258 rfl rfl ?_
  refine ev_bipush (v := nI 6) dL_law_259 (by decide) ?_
  refine ev_iadd (v := nI (i + 6)) dL_law_261 (nI_add _ _) ?_
  refine ev_sld (j := i + 6) (v := x6) dL_law_262 (am_ixn (by omega) hL) e6 ?_
  refine ev_callV (as := [.int x1, .int x2, .int x3, .int x4, .int x5, .int x6]) (st := []) dL_law_263 mfX6_feed lk_L_18 (ly_k h.2.2.1.ly 32 rfl) (by decide) rfl (c_X6_feed G 0 A σ h.1 h.2.2.1 x1 x2 x3 x4 x5 x6) rfl rfl (Nat.le_of_ble_eq_true rfl) ⟨Nat.le_of_ble_eq_true rfl, Nat.le_of_ble_eq_true rfl⟩ (lw_hc hk hn (by decide) (by decide)) ?_
  rintro _ τ ⟨rfl, hX, hF⟩
  have h3 : iv_M A τ := h.2.2.2.L hX hF.L
  refine ev_aload_n dL_law_266 rfl rfl ?_
  refine ev_aload_n dL_law_267 rfl rfl ?_
  refine ev_iload_n dL_law_268 rfl rfl ?_
  refine ev_iconst (v := nI 1) dL_law_269 (by decide) ?_
  refine ev_iadd (v := nI (i + 1)) dL_law_270 (nI_add _ _) ?_
  refine ev_sld (j := i + 1) (v := x1) dL_law_271 (am_ixn (by omega) hL) e1 ?_
  refine ev_aload_n dL_law_272 rfl rfl ?_
  refine ev_iload_n dL_law_273 rfl rfl ?_
  refine ev_iconst (v := nI 2) dL_law_274 (by decide) ?_
  refine ev_iadd (v := nI (i + 2)) dL_law_275 (nI_add _ _) ?_
  refine ev_sld (j := i + 2) (v := x2) dL_law_276 (am_ixn (by omega) hL) e2 ?_
  refine ev_aload_n dL_law_277 rfl rfl ?_
  refine ev_iload_n dL_law_278 rfl rfl ?_
  refine ev_iconst (v := nI 3) dL_law_279 (by decide) ?_
  refine ev_iadd (v := nI (i + 3)) dL_law_280 (nI_add _ _) ?_
  refine ev_sld (j := i + 3) (v := x3) dL_law_281 (am_ixn (by omega) hL) e3 ?_
  refine ev_aload_n dL_law_282 rfl rfl ?_
  refine ev_iload_n dL_law_283 rfl rfl ?_
  refine ev_iconst (v := nI 4) dL_law_284 (by decide) ?_
  refine ev_iadd (v := nI (i + 4)) dL_law_285 (nI_add _ _) ?_
  refine ev_sld (j := i + 4) (v := x4) dL_law_286 (am_ixn (by omega) hL) e4 ?_
  refine ev_aload_n dL_law_287 rfl rfl ?_
  refine ev_iload_n dL_law_288 rfl rfl ?_
  refine ev_iconst (v := nI 5) dL_law_289 (by decide) ?_
  refine ev_iadd (v := nI (i + 5)) dL_law_290 (nI_add _ _) ?_
  refine ev_sld (j := i + 5) (v := x5) dL_law_291 (am_ixn (by omega) hL) e5 ?_
  refine ev_aload_n dL_law_292 rfl rfl ?_
  refine ev_iload_n dL_law_293 rfl rfl ?_
  refine ev_bipush (v := nI 6) dL_law_294 (by decide) ?_
  refine ev_iadd (v := nI (i + 6)) dL_law_296 (nI_add _ _) ?_
  refine ev_sld (j := i + 6) (v := x6) dL_law_297 (am_ixn (by omega) hL) e6 ?_
  refine ev_callV (as := [.int x1, .int x2, .int x3, .int x4, .int x5, .int x6]) (st := [.int (sp_feed A x1 x2 x3 x4 x5 x6).1]) dL_law_298 mfX7_feed lk_L_22 (ly_k h3.ly 65 rfl) (by decide) rfl (c_X7_feed G 0 A τ h.1 h3 x1 x2 x3 x4 x5 x6) rfl rfl (Nat.le_of_ble_eq_true rfl) ⟨Nat.le_of_ble_eq_true rfl, Nat.le_of_ble_eq_true rfl⟩ (lw_hc2 (a := 0) (b := 0) hk hn (by decide) (by decide)) ?_
  rintro _ υ ⟨rfl, hI, f⟩
  refine ev_icmp_eq (tgt := 1592) dL_law_301 (by decide) (fun _ => ?_) (fun q => absurd rfl q)
  exact next _ υ _ _ (lw_st h (wz_feed h.1) hX hI f.w) (by omega) (by omega)

set_option maxHeartbeats 400000 in
set_option maxRecDepth 100000 in
theorem law_2 {G : am_G} {nm : String} {A : am_S} {σ : am_M} {i k n : Nat} (h : lw_I A σ) (hi : i + 7 ≤ G.2.2.2.2.2.1) (hL : G.2.2.2.2.2.1 < 2 ^ 31) (hk : k + 3 ≤ 659291) (hn : n + 196 ≤ 7124374) (next : lw_N G nm i k n) : lw_E G nm 306 (lw_V i) σ k n := by
  show am_Ev G (mL nm) lw_M 659291 7124374 lw_T 306 [(0, .ref 0), (1, .ref 32), (2, .ref 65), (3, .int (nI i))] [] σ k n
  refine ev_aload_n dL_law_306 rfl rfl ?_
  refine ev_callV (as := []) (st := []) dL_law_307 mfX6_text lk_L_23 (ly_k h.2.2.1.ly 32 rfl) (by decide) rfl (c_X6_text G 0 A σ h.1 h.2.2.1) rfl rfl (Nat.le_of_ble_eq_true rfl) ⟨Nat.le_of_ble_eq_true rfl, Nat.le_of_ble_eq_true rfl⟩ (lw_hc hk hn (by decide) (by decide)) ?_
  rintro _ τ ⟨y, rfl, hQ, hF, hy⟩
  have h3 : iv_M A τ := iv_M.Ly h.2.2.2 hy hF
  refine ev_aload_n dL_law_310 rfl rfl ?_
  refine ev_callV (as := []) (st := [.int y]) dL_law_311 mfX7_text lk_L_27 (ly_k h3.ly 65 rfl) (by decide) rfl (c_X7_text G 0 A τ h.1.T h.2.1 h3) rfl rfl (Nat.le_of_ble_eq_true rfl) ⟨Nat.le_of_ble_eq_true rfl, Nat.le_of_ble_eq_true rfl⟩ (lw_hc2 (a := 3) (b := 196) hk hn (by decide) (by decide)) ?_
  rintro _ υ ⟨A2, y2, hq, rfl, hI, f⟩
  obtain ⟨e, hX⟩ := hQ A2 y2 hq
  refine ev_icmp_eq (tgt := 1592) dL_law_314 (by decide) (fun _ => ?_) (fun q => absurd e.symm q)
  exact next A2 υ _ _ (lw_st h (wz_text h.1 hq) hX hI f.w) (by omega) (by omega)

set_option maxHeartbeats 400000 in
set_option maxRecDepth 100000 in
theorem law_3 {G : am_G} {nm : String} {A : am_S} {σ : am_M} {i k n : Nat} (h : lw_I A σ) (hi : i + 7 ≤ G.2.2.2.2.2.1) (hL : G.2.2.2.2.2.1 < 2 ^ 31) (hk : k + 3 ≤ 659291) (hn : n + 196 ≤ 7124374) (next : lw_N G nm i k n) : lw_E G nm 319 (lw_V i) σ k n := by
  generalize e1 : G.2.2.2.2.2.2 (i + 1) = x1
  show am_Ev G (mL nm) lw_M 659291 7124374 lw_T 319 [(0, .ref 0), (1, .ref 32), (2, .ref 65), (3, .int (nI i))] [] σ k n
  refine ev_aload_n dL_law_319 rfl rfl ?_
  refine ev_aload_n dL_law_320 rfl rfl ?_
  refine ev_iload_n dL_law_321 rfl rfl ?_
  refine ev_iconst (v := nI 1) dL_law_322 (by decide) ?_
  refine ev_iadd (v := nI (i + 1)) dL_law_323 (nI_add _ _) ?_
  refine ev_sld (j := i + 1) (v := x1) dL_law_324 (am_ixn (by omega) hL) e1 ?_
  refine ev_callV (as := [.int x1]) (st := []) dL_law_325 mfX6_force lk_L_28 (ly_k h.2.2.1.ly 32 rfl) (by decide) rfl (c_X6_force G 0 A σ h.1 h.2.2.1 x1) rfl rfl (Nat.le_of_ble_eq_true rfl) ⟨Nat.le_of_ble_eq_true rfl, Nat.le_of_ble_eq_true rfl⟩ (lw_hc hk hn (by decide) (by decide)) ?_
  rintro _ τ ⟨rfl, hX, hF⟩
  have h3 : iv_M A τ := h.2.2.2.L hX hF.L
  refine ev_aload_n dL_law_328 rfl rfl ?_
  refine ev_aload_n dL_law_329 rfl rfl ?_
  refine ev_iload_n dL_law_330 rfl rfl ?_
  refine ev_iconst (v := nI 1) dL_law_331 (by decide) ?_
  refine ev_iadd (v := nI (i + 1)) dL_law_332 (nI_add _ _) ?_
  refine ev_sld (j := i + 1) (v := x1) dL_law_333 (am_ixn (by omega) hL) e1 ?_
  refine ev_callV (as := [.int x1]) (st := [.int (sp_force A x1).1]) dL_law_334 mfX7_force lk_L_31 (ly_k h3.ly 65 rfl) (by decide) rfl (c_X7_force G 0 A τ h.1 h3 x1) rfl rfl (Nat.le_of_ble_eq_true rfl) ⟨Nat.le_of_ble_eq_true rfl, Nat.le_of_ble_eq_true rfl⟩ (lw_hc2 (a := 0) (b := 0) hk hn (by decide) (by decide)) ?_
  rintro _ υ ⟨rfl, hI, f⟩
  refine ev_icmp_eq (tgt := 1592) dL_law_337 (by decide) (fun _ => ?_) (fun q => absurd rfl q)
  exact next _ υ _ _ (lw_st h (wz_force h.1) hX hI f.w) (by omega) (by omega)

set_option maxHeartbeats 400000 in
set_option maxRecDepth 100000 in
theorem law_4 {G : am_G} {nm : String} {A : am_S} {σ : am_M} {i k n : Nat} (h : lw_I A σ) (hi : i + 7 ≤ G.2.2.2.2.2.1) (hL : G.2.2.2.2.2.1 < 2 ^ 31) (hk : k + 3 ≤ 659291) (hn : n + 196 ≤ 7124374) (next : lw_N G nm i k n) : lw_E G nm 342 (lw_V i) σ k n := by
  generalize e1 : G.2.2.2.2.2.2 (i + 1) = x1
  generalize e2 : G.2.2.2.2.2.2 (i + 2) = x2
  generalize e3 : G.2.2.2.2.2.2 (i + 3) = x3
  generalize e4 : G.2.2.2.2.2.2 (i + 4) = x4
  generalize e5 : G.2.2.2.2.2.2 (i + 5) = x5
  show am_Ev G (mL nm) lw_M 659291 7124374 lw_T 342 [(0, .ref 0), (1, .ref 32), (2, .ref 65), (3, .int (nI i))] [] σ k n
  refine ev_aload_n dL_law_342 rfl rfl ?_
  refine ev_aload_n dL_law_343 rfl rfl ?_
  refine ev_iload_n dL_law_344 rfl rfl ?_
  refine ev_iconst (v := nI 1) dL_law_345 (by decide) ?_
  refine ev_iadd (v := nI (i + 1)) dL_law_346 (nI_add _ _) ?_
  refine ev_sld (j := i + 1) (v := x1) dL_law_347 (am_ixn (by omega) hL) e1 ?_
  refine ev_aload_n dL_law_348 rfl rfl ?_
  refine ev_iload_n dL_law_349 rfl rfl ?_
  refine ev_iconst (v := nI 2) dL_law_350 (by decide) ?_
  refine ev_iadd (v := nI (i + 2)) dL_law_351 (nI_add _ _) ?_
  refine ev_sld (j := i + 2) (v := x2) dL_law_352 (am_ixn (by omega) hL) e2 ?_
  refine ev_aload_n dL_law_353 rfl rfl ?_
  refine ev_iload_n dL_law_354 rfl rfl ?_
  refine ev_iconst (v := nI 3) dL_law_355 (by decide) ?_
  refine ev_iadd (v := nI (i + 3)) dL_law_356 (nI_add _ _) ?_
  refine ev_sld (j := i + 3) (v := x3) dL_law_357 (am_ixn (by omega) hL) e3 ?_
  refine ev_aload_n dL_law_358 rfl rfl ?_
  refine ev_iload_n dL_law_359 rfl rfl ?_
  refine ev_iconst (v := nI 4) dL_law_360 (by decide) ?_
  refine ev_iadd (v := nI (i + 4)) dL_law_361 (nI_add _ _) ?_
  refine ev_sld (j := i + 4) (v := x4) dL_law_362 (am_ixn (by omega) hL) e4 ?_
  refine ev_aload_n dL_law_363 rfl rfl ?_
  refine ev_iload_n dL_law_364 rfl rfl ?_
  refine ev_iconst (v := nI 5) dL_law_365 (by decide) ?_
  refine ev_iadd (v := nI (i + 5)) dL_law_366 (nI_add _ _) ?_
  refine ev_sld (j := i + 5) (v := x5) dL_law_367 (am_ixn (by omega) hL) e5 ?_
  refine ev_callV (as := [.int x1, .int x2, .int x3, .int x4, .int x5]) (st := []) dL_law_368 mfX6_asks lk_L_32 (ly_k h.2.2.1.ly 32 rfl) (by decide) rfl (c_X6_asks G 0 A σ h.1 h.2.2.1 x1 x2 x3 x4 x5) rfl rfl (Nat.le_of_ble_eq_true rfl) ⟨Nat.le_of_ble_eq_true rfl, Nat.le_of_ble_eq_true rfl⟩ (lw_hc hk hn (by decide) (by decide)) ?_
  rintro _ τ ⟨rfl, hX, hF⟩
  have h3 : iv_M A τ := h.2.2.2.L hX hF.L
  refine ev_aload_n dL_law_371 rfl rfl ?_
  refine ev_aload_n dL_law_372 rfl rfl ?_
  refine ev_iload_n dL_law_373 rfl rfl ?_
  refine ev_iconst (v := nI 1) dL_law_374 (by decide) ?_
  refine ev_iadd (v := nI (i + 1)) dL_law_375 (nI_add _ _) ?_
  refine ev_sld (j := i + 1) (v := x1) dL_law_376 (am_ixn (by omega) hL) e1 ?_
  refine ev_aload_n dL_law_377 rfl rfl ?_
  refine ev_iload_n dL_law_378 rfl rfl ?_
  refine ev_iconst (v := nI 2) dL_law_379 (by decide) ?_
  refine ev_iadd (v := nI (i + 2)) dL_law_380 (nI_add _ _) ?_
  refine ev_sld (j := i + 2) (v := x2) dL_law_381 (am_ixn (by omega) hL) e2 ?_
  refine ev_aload_n dL_law_382 rfl rfl ?_
  refine ev_iload_n dL_law_383 rfl rfl ?_
  refine ev_iconst (v := nI 3) dL_law_384 (by decide) ?_
  refine ev_iadd (v := nI (i + 3)) dL_law_385 (nI_add _ _) ?_
  refine ev_sld (j := i + 3) (v := x3) dL_law_386 (am_ixn (by omega) hL) e3 ?_
  refine ev_aload_n dL_law_387 rfl rfl ?_
  refine ev_iload_n dL_law_388 rfl rfl ?_
  refine ev_iconst (v := nI 4) dL_law_389 (by decide) ?_
  refine ev_iadd (v := nI (i + 4)) dL_law_390 (nI_add _ _) ?_
  refine ev_sld (j := i + 4) (v := x4) dL_law_391 (am_ixn (by omega) hL) e4 ?_
  refine ev_aload_n dL_law_392 rfl rfl ?_
  refine ev_iload_n dL_law_393 rfl rfl ?_
  refine ev_iconst (v := nI 5) dL_law_394 (by decide) ?_
  refine ev_iadd (v := nI (i + 5)) dL_law_395 (nI_add _ _) ?_
  refine ev_sld (j := i + 5) (v := x5) dL_law_396 (am_ixn (by omega) hL) e5 ?_
  refine ev_callV (as := [.int x1, .int x2, .int x3, .int x4, .int x5]) (st := [.int (sp_asks A x1 x2 x3 x4 x5)]) dL_law_397 mfX7_asks lk_L_36 (ly_k h3.ly 65 rfl) (by decide) rfl (c_X7_asks G 0 A τ h.1 h3 x1 x2 x3 x4 x5) rfl rfl (Nat.le_of_ble_eq_true rfl) ⟨Nat.le_of_ble_eq_true rfl, Nat.le_of_ble_eq_true rfl⟩ (lw_hc2 (a := 0) (b := 0) hk hn (by decide) (by decide)) ?_
  rintro _ υ ⟨rfl, hI, f⟩
  refine ev_icmp_eq (tgt := 1592) dL_law_400 (by decide) (fun _ => ?_) (fun q => absurd rfl q)
  exact next A υ _ _ (lw_st h (wz_rf h.1) hX hI f.w) (by omega) (by omega)

set_option maxHeartbeats 400000 in
set_option maxRecDepth 100000 in
theorem law_5 {G : am_G} {nm : String} {A : am_S} {σ : am_M} {i k n : Nat} (h : lw_I A σ) (hi : i + 7 ≤ G.2.2.2.2.2.1) (hL : G.2.2.2.2.2.1 < 2 ^ 31) (hk : k + 3 ≤ 659291) (hn : n + 196 ≤ 7124374) (next : lw_N G nm i k n) : lw_E G nm 405 (lw_V i) σ k n := by
  generalize e1 : G.2.2.2.2.2.2 (i + 1) = x1
  generalize e2 : G.2.2.2.2.2.2 (i + 2) = x2
  generalize e3 : G.2.2.2.2.2.2 (i + 3) = x3
  show am_Ev G (mL nm) lw_M 659291 7124374 lw_T 405 [(0, .ref 0), (1, .ref 32), (2, .ref 65), (3, .int (nI i))] [] σ k n
  refine ev_aload_n dL_law_405 rfl rfl ?_
  refine ev_aload_n dL_law_406 rfl rfl ?_
  refine ev_iload_n dL_law_407 rfl rfl ?_
  refine ev_iconst (v := nI 1) dL_law_408 (by decide) ?_
  refine ev_iadd (v := nI (i + 1)) dL_law_409 (nI_add _ _) ?_
  refine ev_sld (j := i + 1) (v := x1) dL_law_410 (am_ixn (by omega) hL) e1 ?_
  refine ev_aload_n dL_law_411 rfl rfl ?_
  refine ev_iload_n dL_law_412 rfl rfl ?_
  refine ev_iconst (v := nI 2) dL_law_413 (by decide) ?_
  refine ev_iadd (v := nI (i + 2)) dL_law_414 (nI_add _ _) ?_
  refine ev_sld (j := i + 2) (v := x2) dL_law_415 (am_ixn (by omega) hL) e2 ?_
  refine ev_aload_n dL_law_416 rfl rfl ?_
  refine ev_iload_n dL_law_417 rfl rfl ?_
  refine ev_iconst (v := nI 3) dL_law_418 (by decide) ?_
  refine ev_iadd (v := nI (i + 3)) dL_law_419 (nI_add _ _) ?_
  refine ev_sld (j := i + 3) (v := x3) dL_law_420 (am_ixn (by omega) hL) e3 ?_
  refine ev_callV (as := [.int x1, .int x2, .int x3]) (st := []) dL_law_421 mfX6_come lk_L_37 (ly_k h.2.2.1.ly 32 rfl) (by decide) rfl (c_X6_come G 0 A σ h.1 h.2.2.1 x1 x2 x3) rfl rfl (Nat.le_of_ble_eq_true rfl) ⟨Nat.le_of_ble_eq_true rfl, Nat.le_of_ble_eq_true rfl⟩ (lw_hc hk hn (by decide) (by decide)) ?_
  rintro _ τ ⟨rfl, hX, hF⟩
  have h3 : iv_M A τ := h.2.2.2.L hX hF
  refine ev_aload_n dL_law_424 rfl rfl ?_
  refine ev_aload_n dL_law_425 rfl rfl ?_
  refine ev_iload_n dL_law_426 rfl rfl ?_
  refine ev_iconst (v := nI 1) dL_law_427 (by decide) ?_
  refine ev_iadd (v := nI (i + 1)) dL_law_428 (nI_add _ _) ?_
  refine ev_sld (j := i + 1) (v := x1) dL_law_429 (am_ixn (by omega) hL) e1 ?_
  refine ev_aload_n dL_law_430 rfl rfl ?_
  refine ev_iload_n dL_law_431 rfl rfl ?_
  refine ev_iconst (v := nI 2) dL_law_432 (by decide) ?_
  refine ev_iadd (v := nI (i + 2)) dL_law_433 (nI_add _ _) ?_
  refine ev_sld (j := i + 2) (v := x2) dL_law_434 (am_ixn (by omega) hL) e2 ?_
  refine ev_aload_n dL_law_435 rfl rfl ?_
  refine ev_iload_n dL_law_436 rfl rfl ?_
  refine ev_iconst (v := nI 3) dL_law_437 (by decide) ?_
  refine ev_iadd (v := nI (i + 3)) dL_law_438 (nI_add _ _) ?_
  refine ev_sld (j := i + 3) (v := x3) dL_law_439 (am_ixn (by omega) hL) e3 ?_
  refine ev_callV (as := [.int x1, .int x2, .int x3]) (st := [.int (sp_come A x1 x2 x3).1]) dL_law_440 mfX7_come lk_L_41 (ly_k h3.ly 65 rfl) (by decide) rfl (c_X7_come G 0 A τ h.1 h3 x1 x2 x3) rfl rfl (Nat.le_of_ble_eq_true rfl) ⟨Nat.le_of_ble_eq_true rfl, Nat.le_of_ble_eq_true rfl⟩ (lw_hc2 (a := 2) (b := 9) hk hn (by decide) (by decide)) ?_
  rintro _ υ ⟨rfl, hI, f⟩
  refine ev_icmp_eq (tgt := 1592) dL_law_443 (by decide) (fun _ => ?_) (fun q => absurd rfl q)
  exact next _ υ _ _ (lw_st h (wz_come h.1) hX hI f.w) (by omega) (by omega)

set_option maxHeartbeats 400000 in
set_option maxRecDepth 100000 in
theorem law_6 {G : am_G} {nm : String} {A : am_S} {σ : am_M} {i k n : Nat} (h : lw_I A σ) (hi : i + 7 ≤ G.2.2.2.2.2.1) (hL : G.2.2.2.2.2.1 < 2 ^ 31) (hk : k + 3 ≤ 659291) (hn : n + 196 ≤ 7124374) (next : lw_N G nm i k n) : lw_E G nm 448 (lw_V i) σ k n := by
  generalize e1 : G.2.2.2.2.2.2 (i + 1) = x1
  generalize e2 : G.2.2.2.2.2.2 (i + 2) = x2
  generalize e3 : G.2.2.2.2.2.2 (i + 3) = x3
  show am_Ev G (mL nm) lw_M 659291 7124374 lw_T 448 [(0, .ref 0), (1, .ref 32), (2, .ref 65), (3, .int (nI i))] [] σ k n
  refine ev_aload_n dL_law_448 rfl rfl ?_
  refine ev_aload_n dL_law_449 rfl rfl ?_
  refine ev_iload_n dL_law_450 rfl rfl ?_
  refine ev_iconst (v := nI 1) dL_law_451 (by decide) ?_
  refine ev_iadd (v := nI (i + 1)) dL_law_452 (nI_add _ _) ?_
  refine ev_sld (j := i + 1) (v := x1) dL_law_453 (am_ixn (by omega) hL) e1 ?_
  refine ev_aload_n dL_law_454 rfl rfl ?_
  refine ev_iload_n dL_law_455 rfl rfl ?_
  refine ev_iconst (v := nI 2) dL_law_456 (by decide) ?_
  refine ev_iadd (v := nI (i + 2)) dL_law_457 (nI_add _ _) ?_
  refine ev_sld (j := i + 2) (v := x2) dL_law_458 (am_ixn (by omega) hL) e2 ?_
  refine ev_aload_n dL_law_459 rfl rfl ?_
  refine ev_iload_n dL_law_460 rfl rfl ?_
  refine ev_iconst (v := nI 3) dL_law_461 (by decide) ?_
  refine ev_iadd (v := nI (i + 3)) dL_law_462 (nI_add _ _) ?_
  refine ev_sld (j := i + 3) (v := x3) dL_law_463 (am_ixn (by omega) hL) e3 ?_
  refine ev_callV (as := [.int x1, .int x2, .int x3]) (st := []) dL_law_464 mfX6_learn lk_L_42 (ly_k h.2.2.1.ly 32 rfl) (by decide) rfl (c_X6_learn G 0 A σ h.1 h.2.2.1 x1 x2 x3) rfl rfl (Nat.le_of_ble_eq_true rfl) ⟨Nat.le_of_ble_eq_true rfl, Nat.le_of_ble_eq_true rfl⟩ (lw_hc hk hn (by decide) (by decide)) ?_
  rintro _ τ ⟨rfl, hX, hF⟩
  have h3 : iv_M A τ := h.2.2.2.L hX hF.L
  refine ev_aload_n dL_law_467 rfl rfl ?_
  refine ev_aload_n dL_law_468 rfl rfl ?_
  refine ev_iload_n dL_law_469 rfl rfl ?_
  refine ev_iconst (v := nI 1) dL_law_470 (by decide) ?_
  refine ev_iadd (v := nI (i + 1)) dL_law_471 (nI_add _ _) ?_
  refine ev_sld (j := i + 1) (v := x1) dL_law_472 (am_ixn (by omega) hL) e1 ?_
  refine ev_aload_n dL_law_473 rfl rfl ?_
  refine ev_iload_n dL_law_474 rfl rfl ?_
  refine ev_iconst (v := nI 2) dL_law_475 (by decide) ?_
  refine ev_iadd (v := nI (i + 2)) dL_law_476 (nI_add _ _) ?_
  refine ev_sld (j := i + 2) (v := x2) dL_law_477 (am_ixn (by omega) hL) e2 ?_
  refine ev_aload_n dL_law_478 rfl rfl ?_
  refine ev_iload_n dL_law_479 rfl rfl ?_
  refine ev_iconst (v := nI 3) dL_law_480 (by decide) ?_
  refine ev_iadd (v := nI (i + 3)) dL_law_481 (nI_add _ _) ?_
  refine ev_sld (j := i + 3) (v := x3) dL_law_482 (am_ixn (by omega) hL) e3 ?_
  refine ev_callV (as := [.int x1, .int x2, .int x3]) (st := [.int (sp_learn A x1 x2 x3).1]) dL_law_483 mfX7_learn lk_L_45 (ly_k h3.ly 65 rfl) (by decide) rfl (c_X7_learn G 0 A τ h.1 h3 x1 x2 x3) rfl rfl (Nat.le_of_ble_eq_true rfl) ⟨Nat.le_of_ble_eq_true rfl, Nat.le_of_ble_eq_true rfl⟩ (lw_hc2 (a := 0) (b := 0) hk hn (by decide) (by decide)) ?_
  rintro _ υ ⟨rfl, hI, f⟩
  refine ev_icmp_eq (tgt := 1592) dL_law_486 (by decide) (fun _ => ?_) (fun q => absurd rfl q)
  exact next _ υ _ _ (lw_st h (wz_learn h.1) hX hI f.w) (by omega) (by omega)

set_option maxHeartbeats 400000 in
set_option maxRecDepth 100000 in
theorem law_7 {G : am_G} {nm : String} {A : am_S} {σ : am_M} {i k n : Nat} (h : lw_I A σ) (hi : i + 7 ≤ G.2.2.2.2.2.1) (hL : G.2.2.2.2.2.1 < 2 ^ 31) (hk : k + 3 ≤ 659291) (hn : n + 196 ≤ 7124374) (next : lw_N G nm i k n) : lw_E G nm 491 (lw_V i) σ k n := by
  generalize e1 : G.2.2.2.2.2.2 (i + 1) = x1
  generalize e2 : G.2.2.2.2.2.2 (i + 2) = x2
  show am_Ev G (mL nm) lw_M 659291 7124374 lw_T 491 [(0, .ref 0), (1, .ref 32), (2, .ref 65), (3, .int (nI i))] [] σ k n
  refine ev_aload_n dL_law_491 rfl rfl ?_
  refine ev_aload_n dL_law_492 rfl rfl ?_
  refine ev_iload_n dL_law_493 rfl rfl ?_
  refine ev_iconst (v := nI 1) dL_law_494 (by decide) ?_
  refine ev_iadd (v := nI (i + 1)) dL_law_495 (nI_add _ _) ?_
  refine ev_sld (j := i + 1) (v := x1) dL_law_496 (am_ixn (by omega) hL) e1 ?_
  refine ev_aload_n dL_law_497 rfl rfl ?_
  refine ev_iload_n dL_law_498 rfl rfl ?_
  refine ev_iconst (v := nI 2) dL_law_499 (by decide) ?_
  refine ev_iadd (v := nI (i + 2)) dL_law_500 (nI_add _ _) ?_
  refine ev_sld (j := i + 2) (v := x2) dL_law_501 (am_ixn (by omega) hL) e2 ?_
  refine ev_callV (as := [.int x1, .int x2]) (st := []) dL_law_502 mfX6_sit lk_L_46 (ly_k h.2.2.1.ly 32 rfl) (by decide) rfl (c_X6_sit G 0 A σ h.1 h.2.2.1 x1 x2) rfl rfl (Nat.le_of_ble_eq_true rfl) ⟨Nat.le_of_ble_eq_true rfl, Nat.le_of_ble_eq_true rfl⟩ (lw_hc hk hn (by decide) (by decide)) ?_
  rintro _ τ ⟨rfl, hX, hF⟩
  have h3 : iv_M A τ := h.2.2.2.L hX hF.L
  refine ev_aload_n dL_law_505 rfl rfl ?_
  refine ev_aload_n dL_law_506 rfl rfl ?_
  refine ev_iload_n dL_law_507 rfl rfl ?_
  refine ev_iconst (v := nI 1) dL_law_508 (by decide) ?_
  refine ev_iadd (v := nI (i + 1)) dL_law_509 (nI_add _ _) ?_
  refine ev_sld (j := i + 1) (v := x1) dL_law_510 (am_ixn (by omega) hL) e1 ?_
  refine ev_aload_n dL_law_511 rfl rfl ?_
  refine ev_iload_n dL_law_512 rfl rfl ?_
  refine ev_iconst (v := nI 2) dL_law_513 (by decide) ?_
  refine ev_iadd (v := nI (i + 2)) dL_law_514 (nI_add _ _) ?_
  refine ev_sld (j := i + 2) (v := x2) dL_law_515 (am_ixn (by omega) hL) e2 ?_
  refine ev_callV (as := [.int x1, .int x2]) (st := [.int (sp_sit A x1 x2).1]) dL_law_516 mfX7_sit lk_L_50 (ly_k h3.ly 65 rfl) (by decide) rfl (c_X7_sit G 0 A τ h.1 h3 x1 x2) rfl rfl (Nat.le_of_ble_eq_true rfl) ⟨Nat.le_of_ble_eq_true rfl, Nat.le_of_ble_eq_true rfl⟩ (lw_hc2 (a := 0) (b := 0) hk hn (by decide) (by decide)) ?_
  rintro _ υ ⟨rfl, hI, f⟩
  refine ev_icmp_eq (tgt := 1592) dL_law_519 (by decide) (fun _ => ?_) (fun q => absurd rfl q)
  exact next _ υ _ _ (lw_st h (wz_sit h.1) hX hI f.w) (by omega) (by omega)

set_option maxHeartbeats 400000 in
set_option maxRecDepth 100000 in
theorem law_8 {G : am_G} {nm : String} {A : am_S} {σ : am_M} {i k n : Nat} (h : lw_I A σ) (hi : i + 7 ≤ G.2.2.2.2.2.1) (hL : G.2.2.2.2.2.1 < 2 ^ 31) (hk : k + 3 ≤ 659291) (hn : n + 196 ≤ 7124374) (next : lw_N G nm i k n) : lw_E G nm 524 (lw_V i) σ k n := by
  generalize e1 : G.2.2.2.2.2.2 (i + 1) = x1
  generalize e2 : G.2.2.2.2.2.2 (i + 2) = x2
  show am_Ev G (mL nm) lw_M 659291 7124374 lw_T 524 [(0, .ref 0), (1, .ref 32), (2, .ref 65), (3, .int (nI i))] [] σ k n
  refine ev_aload_n dL_law_524 rfl rfl ?_
  refine ev_aload_n dL_law_525 rfl rfl ?_
  refine ev_iload_n dL_law_526 rfl rfl ?_
  refine ev_iconst (v := nI 1) dL_law_527 (by decide) ?_
  refine ev_iadd (v := nI (i + 1)) dL_law_528 (nI_add _ _) ?_
  refine ev_sld (j := i + 1) (v := x1) dL_law_529 (am_ixn (by omega) hL) e1 ?_
  refine ev_aload_n dL_law_530 rfl rfl ?_
  refine ev_iload_n dL_law_531 rfl rfl ?_
  refine ev_iconst (v := nI 2) dL_law_532 (by decide) ?_
  refine ev_iadd (v := nI (i + 2)) dL_law_533 (nI_add _ _) ?_
  refine ev_sld (j := i + 2) (v := x2) dL_law_534 (am_ixn (by omega) hL) e2 ?_
  refine ev_callV (as := [.int x1, .int x2]) (st := []) dL_law_535 mfX6_told lk_L_51 (ly_k h.2.2.1.ly 32 rfl) (by decide) rfl (c_X6_told G 0 A σ h.1 h.2.2.1 x1 x2) rfl rfl (Nat.le_of_ble_eq_true rfl) ⟨Nat.le_of_ble_eq_true rfl, Nat.le_of_ble_eq_true rfl⟩ (lw_hc hk hn (by decide) (by decide)) ?_
  rintro _ _ ⟨rfl, rfl⟩
  have h3 : iv_M A σ := h.2.2.2
  refine ev_aload_n dL_law_538 rfl rfl ?_
  refine ev_aload_n dL_law_539 rfl rfl ?_
  refine ev_iload_n dL_law_540 rfl rfl ?_
  refine ev_iconst (v := nI 1) dL_law_541 (by decide) ?_
  refine ev_iadd (v := nI (i + 1)) dL_law_542 (nI_add _ _) ?_
  refine ev_sld (j := i + 1) (v := x1) dL_law_543 (am_ixn (by omega) hL) e1 ?_
  refine ev_aload_n dL_law_544 rfl rfl ?_
  refine ev_iload_n dL_law_545 rfl rfl ?_
  refine ev_iconst (v := nI 2) dL_law_546 (by decide) ?_
  refine ev_iadd (v := nI (i + 2)) dL_law_547 (nI_add _ _) ?_
  refine ev_sld (j := i + 2) (v := x2) dL_law_548 (am_ixn (by omega) hL) e2 ?_
  refine ev_callV (as := [.int x1, .int x2]) (st := [.int (sp_told A x1 x2)]) dL_law_549 mfX7_told lk_L_54 (ly_k h3.ly 65 rfl) (by decide) rfl (c_X7_told G 0 A σ h.1 h3 x1 x2) rfl rfl (Nat.le_of_ble_eq_true rfl) ⟨Nat.le_of_ble_eq_true rfl, Nat.le_of_ble_eq_true rfl⟩ (lw_hc2 (a := 0) (b := 0) hk hn (by decide) (by decide)) ?_
  rintro _ _ ⟨rfl, rfl⟩
  refine ev_icmp_eq (tgt := 1592) dL_law_552 (by decide) (fun _ => ?_) (fun q => absurd rfl q)
  exact next A σ _ _ (h) (by omega) (by omega)

set_option maxHeartbeats 400000 in
set_option maxRecDepth 100000 in
theorem law_9 {G : am_G} {nm : String} {A : am_S} {σ : am_M} {i k n : Nat} (h : lw_I A σ) (hi : i + 7 ≤ G.2.2.2.2.2.1) (hL : G.2.2.2.2.2.1 < 2 ^ 31) (hk : k + 3 ≤ 659291) (hn : n + 196 ≤ 7124374) (next : lw_N G nm i k n) : lw_E G nm 557 (lw_V i) σ k n := by
  generalize e1 : G.2.2.2.2.2.2 (i + 1) = x1
  generalize e2 : G.2.2.2.2.2.2 (i + 2) = x2
  show am_Ev G (mL nm) lw_M 659291 7124374 lw_T 557 [(0, .ref 0), (1, .ref 32), (2, .ref 65), (3, .int (nI i))] [] σ k n
  refine ev_aload_n dL_law_557 rfl rfl ?_
  refine ev_aload_n dL_law_558 rfl rfl ?_
  refine ev_iload_n dL_law_559 rfl rfl ?_
  refine ev_iconst (v := nI 1) dL_law_560 (by decide) ?_
  refine ev_iadd (v := nI (i + 1)) dL_law_561 (nI_add _ _) ?_
  refine ev_sld (j := i + 1) (v := x1) dL_law_562 (am_ixn (by omega) hL) e1 ?_
  refine ev_aload_n dL_law_563 rfl rfl ?_
  refine ev_iload_n dL_law_564 rfl rfl ?_
  refine ev_iconst (v := nI 2) dL_law_565 (by decide) ?_
  refine ev_iadd (v := nI (i + 2)) dL_law_566 (nI_add _ _) ?_
  refine ev_sld (j := i + 2) (v := x2) dL_law_567 (am_ixn (by omega) hL) e2 ?_
  refine ev_callV (as := [.int x1, .int x2]) (st := []) dL_law_568 mfX6_question lk_L_55 (ly_k h.2.2.1.ly 32 rfl) (by decide) rfl (c_X6_question G 0 A σ h.1 h.2.2.1 x1 x2) rfl rfl (Nat.le_of_ble_eq_true rfl) ⟨Nat.le_of_ble_eq_true rfl, Nat.le_of_ble_eq_true rfl⟩ (lw_hc hk hn (by decide) (by decide)) ?_
  rintro _ τ ⟨rfl, hX, hF⟩
  have h3 : iv_M A τ := h.2.2.2.L hX hF.L
  refine ev_aload_n dL_law_571 rfl rfl ?_
  refine ev_aload_n dL_law_572 rfl rfl ?_
  refine ev_iload_n dL_law_573 rfl rfl ?_
  refine ev_iconst (v := nI 1) dL_law_574 (by decide) ?_
  refine ev_iadd (v := nI (i + 1)) dL_law_575 (nI_add _ _) ?_
  refine ev_sld (j := i + 1) (v := x1) dL_law_576 (am_ixn (by omega) hL) e1 ?_
  refine ev_aload_n dL_law_577 rfl rfl ?_
  refine ev_iload_n dL_law_578 rfl rfl ?_
  refine ev_iconst (v := nI 2) dL_law_579 (by decide) ?_
  refine ev_iadd (v := nI (i + 2)) dL_law_580 (nI_add _ _) ?_
  refine ev_sld (j := i + 2) (v := x2) dL_law_581 (am_ixn (by omega) hL) e2 ?_
  refine ev_callV (as := [.int x1, .int x2]) (st := [.int (sp_question A x1 x2).1]) dL_law_582 mfX7_question lk_L_58 (ly_k h3.ly 65 rfl) (by decide) rfl (c_X7_question G 0 A τ h.1 h3 x1 x2) rfl rfl (Nat.le_of_ble_eq_true rfl) ⟨Nat.le_of_ble_eq_true rfl, Nat.le_of_ble_eq_true rfl⟩ (lw_hc2 (a := 0) (b := 0) hk hn (by decide) (by decide)) ?_
  rintro _ υ ⟨rfl, hI, f⟩
  refine ev_icmp_eq (tgt := 1592) dL_law_585 (by decide) (fun _ => ?_) (fun q => absurd rfl q)
  exact next _ υ _ _ (lw_st h (wz_question h.1) hX hI f.w) (by omega) (by omega)

set_option maxHeartbeats 400000 in
set_option maxRecDepth 100000 in
theorem law_10 {G : am_G} {nm : String} {A : am_S} {σ : am_M} {i k n : Nat} (h : lw_I A σ) (hi : i + 7 ≤ G.2.2.2.2.2.1) (hL : G.2.2.2.2.2.1 < 2 ^ 31) (hk : k + 3 ≤ 659291) (hn : n + 196 ≤ 7124374) (next : lw_N G nm i k n) : lw_E G nm 590 (lw_V i) σ k n := by
  generalize e1 : G.2.2.2.2.2.2 (i + 1) = x1
  generalize e2 : G.2.2.2.2.2.2 (i + 2) = x2
  show am_Ev G (mL nm) lw_M 659291 7124374 lw_T 590 [(0, .ref 0), (1, .ref 32), (2, .ref 65), (3, .int (nI i))] [] σ k n
  refine ev_aload_n dL_law_590 rfl rfl ?_
  refine ev_aload_n dL_law_591 rfl rfl ?_
  refine ev_iload_n dL_law_592 rfl rfl ?_
  refine ev_iconst (v := nI 1) dL_law_593 (by decide) ?_
  refine ev_iadd (v := nI (i + 1)) dL_law_594 (nI_add _ _) ?_
  refine ev_sld (j := i + 1) (v := x1) dL_law_595 (am_ixn (by omega) hL) e1 ?_
  refine ev_aload_n dL_law_596 rfl rfl ?_
  refine ev_iload_n dL_law_597 rfl rfl ?_
  refine ev_iconst (v := nI 2) dL_law_598 (by decide) ?_
  refine ev_iadd (v := nI (i + 2)) dL_law_599 (nI_add _ _) ?_
  refine ev_sld (j := i + 2) (v := x2) dL_law_600 (am_ixn (by omega) hL) e2 ?_
  refine ev_callV (as := [.int x1, .int x2]) (st := []) dL_law_601 mfX6_askedOf lk_L_59 (ly_k h.2.2.1.ly 32 rfl) (by decide) rfl (c_X6_askedOf G 0 A σ h.1 h.2.2.1 x1 x2) rfl rfl (Nat.le_of_ble_eq_true rfl) ⟨Nat.le_of_ble_eq_true rfl, Nat.le_of_ble_eq_true rfl⟩ (lw_hc hk hn (by decide) (by decide)) ?_
  rintro _ _ ⟨rfl, rfl⟩
  have h3 : iv_M A σ := h.2.2.2
  refine ev_aload_n dL_law_604 rfl rfl ?_
  refine ev_aload_n dL_law_605 rfl rfl ?_
  refine ev_iload_n dL_law_606 rfl rfl ?_
  refine ev_iconst (v := nI 1) dL_law_607 (by decide) ?_
  refine ev_iadd (v := nI (i + 1)) dL_law_608 (nI_add _ _) ?_
  refine ev_sld (j := i + 1) (v := x1) dL_law_609 (am_ixn (by omega) hL) e1 ?_
  refine ev_aload_n dL_law_610 rfl rfl ?_
  refine ev_iload_n dL_law_611 rfl rfl ?_
  refine ev_iconst (v := nI 2) dL_law_612 (by decide) ?_
  refine ev_iadd (v := nI (i + 2)) dL_law_613 (nI_add _ _) ?_
  refine ev_sld (j := i + 2) (v := x2) dL_law_614 (am_ixn (by omega) hL) e2 ?_
  refine ev_callV (as := [.int x1, .int x2]) (st := [.int (sp_askedOf A x1 x2)]) dL_law_615 mfX7_askedOf lk_L_62 (ly_k h3.ly 65 rfl) (by decide) rfl (c_X7_askedOf G 0 A σ h.1 h3 x1 x2) rfl rfl (Nat.le_of_ble_eq_true rfl) ⟨Nat.le_of_ble_eq_true rfl, Nat.le_of_ble_eq_true rfl⟩ (lw_hc2 (a := 0) (b := 0) hk hn (by decide) (by decide)) ?_
  rintro _ _ ⟨rfl, rfl⟩
  refine ev_icmp_eq (tgt := 1592) dL_law_618 (by decide) (fun _ => ?_) (fun q => absurd rfl q)
  exact next A σ _ _ (h) (by omega) (by omega)

set_option maxHeartbeats 400000 in
set_option maxRecDepth 100000 in
theorem law_11 {G : am_G} {nm : String} {A : am_S} {σ : am_M} {i k n : Nat} (h : lw_I A σ) (hi : i + 7 ≤ G.2.2.2.2.2.1) (hL : G.2.2.2.2.2.1 < 2 ^ 31) (hk : k + 3 ≤ 659291) (hn : n + 196 ≤ 7124374) (next : lw_N G nm i k n) : lw_E G nm 623 (lw_V i) σ k n := by
  generalize e1 : G.2.2.2.2.2.2 (i + 1) = x1
  generalize e2 : G.2.2.2.2.2.2 (i + 2) = x2
  show am_Ev G (mL nm) lw_M 659291 7124374 lw_T 623 [(0, .ref 0), (1, .ref 32), (2, .ref 65), (3, .int (nI i))] [] σ k n
  refine ev_aload_n dL_law_623 rfl rfl ?_
  refine ev_aload_n dL_law_624 rfl rfl ?_
  refine ev_iload_n dL_law_625 rfl rfl ?_
  refine ev_iconst (v := nI 1) dL_law_626 (by decide) ?_
  refine ev_iadd (v := nI (i + 1)) dL_law_627 (nI_add _ _) ?_
  refine ev_sld (j := i + 1) (v := x1) dL_law_628 (am_ixn (by omega) hL) e1 ?_
  refine ev_aload_n dL_law_629 rfl rfl ?_
  refine ev_iload_n dL_law_630 rfl rfl ?_
  refine ev_iconst (v := nI 2) dL_law_631 (by decide) ?_
  refine ev_iadd (v := nI (i + 2)) dL_law_632 (nI_add _ _) ?_
  refine ev_sld (j := i + 2) (v := x2) dL_law_633 (am_ixn (by omega) hL) e2 ?_
  refine ev_callV (as := [.int x1, .int x2]) (st := []) dL_law_634 mfX6_lay lk_L_63 (ly_k h.2.2.1.ly 32 rfl) (by decide) rfl (c_X6_lay G 0 A σ h.1 h.2.2.1 x1 x2) rfl rfl (Nat.le_of_ble_eq_true rfl) ⟨Nat.le_of_ble_eq_true rfl, Nat.le_of_ble_eq_true rfl⟩ (lw_hc hk hn (by decide) (by decide)) ?_
  rintro _ τ ⟨rfl, hX, hF⟩
  have h3 : iv_M A τ := h.2.2.2.L hX hF.L
  refine ev_aload_n dL_law_637 rfl rfl ?_
  refine ev_aload_n dL_law_638 rfl rfl ?_
  refine ev_iload_n dL_law_639 rfl rfl ?_
  refine ev_iconst (v := nI 1) dL_law_640 (by decide) ?_
  refine ev_iadd (v := nI (i + 1)) dL_law_641 (nI_add _ _) ?_
  refine ev_sld (j := i + 1) (v := x1) dL_law_642 (am_ixn (by omega) hL) e1 ?_
  refine ev_aload_n dL_law_643 rfl rfl ?_
  refine ev_iload_n dL_law_644 rfl rfl ?_
  refine ev_iconst (v := nI 2) dL_law_645 (by decide) ?_
  refine ev_iadd (v := nI (i + 2)) dL_law_646 (nI_add _ _) ?_
  refine ev_sld (j := i + 2) (v := x2) dL_law_647 (am_ixn (by omega) hL) e2 ?_
  refine ev_callV (as := [.int x1, .int x2]) (st := [.int (sp_lay A x1 x2).1]) dL_law_648 mfX7_lay lk_L_66 (ly_k h3.ly 65 rfl) (by decide) rfl (c_X7_lay G 0 A τ h.1 h3 x1 x2) rfl rfl (Nat.le_of_ble_eq_true rfl) ⟨Nat.le_of_ble_eq_true rfl, Nat.le_of_ble_eq_true rfl⟩ (lw_hc2 (a := 0) (b := 0) hk hn (by decide) (by decide)) ?_
  rintro _ υ ⟨rfl, hI, f⟩
  refine ev_icmp_eq (tgt := 1592) dL_law_651 (by decide) (fun _ => ?_) (fun q => absurd rfl q)
  exact next _ υ _ _ (lw_st h (wz_lay h.1) hX hI f.w) (by omega) (by omega)

set_option maxHeartbeats 400000 in
set_option maxRecDepth 100000 in
theorem law_12 {G : am_G} {nm : String} {A : am_S} {σ : am_M} {i k n : Nat} (h : lw_I A σ) (hi : i + 7 ≤ G.2.2.2.2.2.1) (hL : G.2.2.2.2.2.1 < 2 ^ 31) (hk : k + 3 ≤ 659291) (hn : n + 196 ≤ 7124374) (next : lw_N G nm i k n) : lw_E G nm 656 (lw_V i) σ k n := by
  generalize e1 : G.2.2.2.2.2.2 (i + 1) = x1
  show am_Ev G (mL nm) lw_M 659291 7124374 lw_T 656 [(0, .ref 0), (1, .ref 32), (2, .ref 65), (3, .int (nI i))] [] σ k n
  refine ev_aload_n dL_law_656 rfl rfl ?_
  refine ev_aload_n dL_law_657 rfl rfl ?_
  refine ev_iload_n dL_law_658 rfl rfl ?_
  refine ev_iconst (v := nI 1) dL_law_659 (by decide) ?_
  refine ev_iadd (v := nI (i + 1)) dL_law_660 (nI_add _ _) ?_
  refine ev_sld (j := i + 1) (v := x1) dL_law_661 (am_ixn (by omega) hL) e1 ?_
  refine ev_callV (as := [.int x1]) (st := []) dL_law_662 mfX6_laid lk_L_67 (ly_k h.2.2.1.ly 32 rfl) (by decide) rfl (c_X6_laid G 0 A σ h.1 h.2.2.1 x1) rfl rfl (Nat.le_of_ble_eq_true rfl) ⟨Nat.le_of_ble_eq_true rfl, Nat.le_of_ble_eq_true rfl⟩ (lw_hc hk hn (by decide) (by decide)) ?_
  rintro _ _ ⟨rfl, rfl⟩
  have h3 : iv_M A σ := h.2.2.2
  refine ev_aload_n dL_law_665 rfl rfl ?_
  refine ev_aload_n dL_law_666 rfl rfl ?_
  refine ev_iload_n dL_law_667 rfl rfl ?_
  refine ev_iconst (v := nI 1) dL_law_668 (by decide) ?_
  refine ev_iadd (v := nI (i + 1)) dL_law_669 (nI_add _ _) ?_
  refine ev_sld (j := i + 1) (v := x1) dL_law_670 (am_ixn (by omega) hL) e1 ?_
  refine ev_callV (as := [.int x1]) (st := [.int (sp_laid A x1)]) dL_law_671 mfX7_laid lk_L_70 (ly_k h3.ly 65 rfl) (by decide) rfl (c_X7_laid G 0 A σ h.1 h3 x1) rfl rfl (Nat.le_of_ble_eq_true rfl) ⟨Nat.le_of_ble_eq_true rfl, Nat.le_of_ble_eq_true rfl⟩ (lw_hc2 (a := 0) (b := 0) hk hn (by decide) (by decide)) ?_
  rintro _ _ ⟨rfl, rfl⟩
  refine ev_icmp_eq (tgt := 1592) dL_law_674 (by decide) (fun _ => ?_) (fun q => absurd rfl q)
  exact next A σ _ _ (h) (by omega) (by omega)

set_option maxHeartbeats 400000 in
set_option maxRecDepth 100000 in
theorem law_13 {G : am_G} {nm : String} {A : am_S} {σ : am_M} {i k n : Nat} (h : lw_I A σ) (hi : i + 7 ≤ G.2.2.2.2.2.1) (hL : G.2.2.2.2.2.1 < 2 ^ 31) (hk : k + 3 ≤ 659291) (hn : n + 196 ≤ 7124374) (next : lw_N G nm i k n) : lw_E G nm 679 (lw_V i) σ k n := by
  generalize e1 : G.2.2.2.2.2.2 (i + 1) = x1
  generalize e2 : G.2.2.2.2.2.2 (i + 2) = x2
  generalize e3 : G.2.2.2.2.2.2 (i + 3) = x3
  show am_Ev G (mL nm) lw_M 659291 7124374 lw_T 679 [(0, .ref 0), (1, .ref 32), (2, .ref 65), (3, .int (nI i))] [] σ k n
  refine ev_aload_n dL_law_679 rfl rfl ?_
  refine ev_aload_n dL_law_680 rfl rfl ?_
  refine ev_iload_n dL_law_681 rfl rfl ?_
  refine ev_iconst (v := nI 1) dL_law_682 (by decide) ?_
  refine ev_iadd (v := nI (i + 1)) dL_law_683 (nI_add _ _) ?_
  refine ev_sld (j := i + 1) (v := x1) dL_law_684 (am_ixn (by omega) hL) e1 ?_
  refine ev_aload_n dL_law_685 rfl rfl ?_
  refine ev_iload_n dL_law_686 rfl rfl ?_
  refine ev_iconst (v := nI 2) dL_law_687 (by decide) ?_
  refine ev_iadd (v := nI (i + 2)) dL_law_688 (nI_add _ _) ?_
  refine ev_sld (j := i + 2) (v := x2) dL_law_689 (am_ixn (by omega) hL) e2 ?_
  refine ev_aload_n dL_law_690 rfl rfl ?_
  refine ev_iload_n dL_law_691 rfl rfl ?_
  refine ev_iconst (v := nI 3) dL_law_692 (by decide) ?_
  refine ev_iadd (v := nI (i + 3)) dL_law_693 (nI_add _ _) ?_
  refine ev_sld (j := i + 3) (v := x3) dL_law_694 (am_ixn (by omega) hL) e3 ?_
  refine ev_callV (as := [.int x1, .int x2, .int x3]) (st := []) dL_law_695 mfX6_answer lk_L_71 (ly_k h.2.2.1.ly 32 rfl) (by decide) rfl (c_X6_answer G 0 A σ h.1 h.2.2.1 x1 x2 x3) rfl rfl (Nat.le_of_ble_eq_true rfl) ⟨Nat.le_of_ble_eq_true rfl, Nat.le_of_ble_eq_true rfl⟩ (lw_hc hk hn (by decide) (by decide)) ?_
  rintro _ τ ⟨rfl, hX, hF⟩
  have h3 : iv_M A τ := h.2.2.2.L hX hF.L
  refine ev_aload_n dL_law_698 rfl rfl ?_
  refine ev_aload_n dL_law_699 rfl rfl ?_
  refine ev_iload_n dL_law_700 rfl rfl ?_
  refine ev_iconst (v := nI 1) dL_law_701 (by decide) ?_
  refine ev_iadd (v := nI (i + 1)) dL_law_702 (nI_add _ _) ?_
  refine ev_sld (j := i + 1) (v := x1) dL_law_703 (am_ixn (by omega) hL) e1 ?_
  refine ev_aload_n dL_law_704 rfl rfl ?_
  refine ev_iload_n dL_law_705 rfl rfl ?_
  refine ev_iconst (v := nI 2) dL_law_706 (by decide) ?_
  refine ev_iadd (v := nI (i + 2)) dL_law_707 (nI_add _ _) ?_
  refine ev_sld (j := i + 2) (v := x2) dL_law_708 (am_ixn (by omega) hL) e2 ?_
  refine ev_aload_n dL_law_709 rfl rfl ?_
  refine ev_iload_n dL_law_710 rfl rfl ?_
  refine ev_iconst (v := nI 3) dL_law_711 (by decide) ?_
  refine ev_iadd (v := nI (i + 3)) dL_law_712 (nI_add _ _) ?_
  refine ev_sld (j := i + 3) (v := x3) dL_law_713 (am_ixn (by omega) hL) e3 ?_
  refine ev_callV (as := [.int x1, .int x2, .int x3]) (st := [.int (sp_answer A x1 x2 x3)]) dL_law_714 mfX7_answer lk_L_74 (ly_k h3.ly 65 rfl) (by decide) rfl (c_X7_answer G 0 A τ h.1 h3 x1 x2 x3) rfl rfl (Nat.le_of_ble_eq_true rfl) ⟨Nat.le_of_ble_eq_true rfl, Nat.le_of_ble_eq_true rfl⟩ (lw_hc2 (a := 0) (b := 0) hk hn (by decide) (by decide)) ?_
  rintro _ υ ⟨rfl, hI, f⟩
  refine ev_icmp_eq (tgt := 1592) dL_law_717 (by decide) (fun _ => ?_) (fun q => absurd rfl q)
  exact next A υ _ _ (lw_st h (wz_rf h.1) hX hI f.w) (by omega) (by omega)

set_option maxHeartbeats 400000 in
set_option maxRecDepth 100000 in
theorem law_14 {G : am_G} {nm : String} {A : am_S} {σ : am_M} {i k n : Nat} (h : lw_I A σ) (hi : i + 7 ≤ G.2.2.2.2.2.1) (hL : G.2.2.2.2.2.1 < 2 ^ 31) (hk : k + 3 ≤ 659291) (hn : n + 196 ≤ 7124374) (next : lw_N G nm i k n) : lw_E G nm 722 (lw_V i) σ k n := by
  generalize e1 : G.2.2.2.2.2.2 (i + 1) = x1
  generalize e2 : G.2.2.2.2.2.2 (i + 2) = x2
  show am_Ev G (mL nm) lw_M 659291 7124374 lw_T 722 [(0, .ref 0), (1, .ref 32), (2, .ref 65), (3, .int (nI i))] [] σ k n
  refine ev_aload_n dL_law_722 rfl rfl ?_
  refine ev_aload_n dL_law_723 rfl rfl ?_
  refine ev_iload_n dL_law_724 rfl rfl ?_
  refine ev_iconst (v := nI 1) dL_law_725 (by decide) ?_
  refine ev_iadd (v := nI (i + 1)) dL_law_726 (nI_add _ _) ?_
  refine ev_sld (j := i + 1) (v := x1) dL_law_727 (am_ixn (by omega) hL) e1 ?_
  refine ev_aload_n dL_law_728 rfl rfl ?_
  refine ev_iload_n dL_law_729 rfl rfl ?_
  refine ev_iconst (v := nI 2) dL_law_730 (by decide) ?_
  refine ev_iadd (v := nI (i + 2)) dL_law_731 (nI_add _ _) ?_
  refine ev_sld (j := i + 2) (v := x2) dL_law_732 (am_ixn (by omega) hL) e2 ?_
  refine ev_callV (as := [.int x1, .int x2]) (st := []) dL_law_733 mfX6_score lk_L_75 (ly_k h.2.2.1.ly 32 rfl) (by decide) rfl (c_X6_score G 0 A σ h.1 h.2.2.1 x1 x2) rfl rfl (Nat.le_of_ble_eq_true rfl) ⟨Nat.le_of_ble_eq_true rfl, Nat.le_of_ble_eq_true rfl⟩ (lw_hc hk hn (by decide) (by decide)) ?_
  rintro _ τ ⟨rfl, hX, hF⟩
  have h3 : iv_M A τ := h.2.2.2.L hX hF.L
  refine ev_aload_n dL_law_736 rfl rfl ?_
  refine ev_aload_n dL_law_737 rfl rfl ?_
  refine ev_iload_n dL_law_738 rfl rfl ?_
  refine ev_iconst (v := nI 1) dL_law_739 (by decide) ?_
  refine ev_iadd (v := nI (i + 1)) dL_law_740 (nI_add _ _) ?_
  refine ev_sld (j := i + 1) (v := x1) dL_law_741 (am_ixn (by omega) hL) e1 ?_
  refine ev_aload_n dL_law_742 rfl rfl ?_
  refine ev_iload_n dL_law_743 rfl rfl ?_
  refine ev_iconst (v := nI 2) dL_law_744 (by decide) ?_
  refine ev_iadd (v := nI (i + 2)) dL_law_745 (nI_add _ _) ?_
  refine ev_sld (j := i + 2) (v := x2) dL_law_746 (am_ixn (by omega) hL) e2 ?_
  refine ev_callV (as := [.int x1, .int x2]) (st := [.int (sp_score A x1 x2)]) dL_law_747 mfX7_score lk_L_78 (ly_k h3.ly 65 rfl) (by decide) rfl (c_X7_score G 0 A τ h.1 h3 x1 x2) rfl rfl (Nat.le_of_ble_eq_true rfl) ⟨Nat.le_of_ble_eq_true rfl, Nat.le_of_ble_eq_true rfl⟩ (lw_hc2 (a := 0) (b := 0) hk hn (by decide) (by decide)) ?_
  rintro _ υ ⟨rfl, hI, f⟩
  refine ev_icmp_eq (tgt := 1592) dL_law_750 (by decide) (fun _ => ?_) (fun q => absurd rfl q)
  exact next A υ _ _ (lw_st h (wz_rf h.1) hX hI f.w) (by omega) (by omega)

set_option maxHeartbeats 400000 in
set_option maxRecDepth 100000 in
theorem law_15 {G : am_G} {nm : String} {A : am_S} {σ : am_M} {i k n : Nat} (h : lw_I A σ) (hi : i + 7 ≤ G.2.2.2.2.2.1) (hL : G.2.2.2.2.2.1 < 2 ^ 31) (hk : k + 3 ≤ 659291) (hn : n + 196 ≤ 7124374) (next : lw_N G nm i k n) : lw_E G nm 755 (lw_V i) σ k n := by
  generalize e1 : G.2.2.2.2.2.2 (i + 1) = x1
  show am_Ev G (mL nm) lw_M 659291 7124374 lw_T 755 [(0, .ref 0), (1, .ref 32), (2, .ref 65), (3, .int (nI i))] [] σ k n
  refine ev_aload_n dL_law_755 rfl rfl ?_
  refine ev_aload_n dL_law_756 rfl rfl ?_
  refine ev_iload_n dL_law_757 rfl rfl ?_
  refine ev_iconst (v := nI 1) dL_law_758 (by decide) ?_
  refine ev_iadd (v := nI (i + 1)) dL_law_759 (nI_add _ _) ?_
  refine ev_sld (j := i + 1) (v := x1) dL_law_760 (am_ixn (by omega) hL) e1 ?_
  refine ev_callV (as := [.int x1]) (st := []) dL_law_761 mfX6_evening lk_L_79 (ly_k h.2.2.1.ly 32 rfl) (by decide) rfl (c_X6_evening G 0 A σ h.1 h.2.2.1 x1) rfl rfl (Nat.le_of_ble_eq_true rfl) ⟨Nat.le_of_ble_eq_true rfl, Nat.le_of_ble_eq_true rfl⟩ (lw_hc hk hn (by decide) (by decide)) ?_
  rintro _ τ ⟨rfl, hX, hF⟩
  have h3 : iv_M A τ := h.2.2.2.L hX hF.L
  refine ev_aload_n dL_law_764 rfl rfl ?_
  refine ev_aload_n dL_law_765 rfl rfl ?_
  refine ev_iload_n dL_law_766 rfl rfl ?_
  refine ev_iconst (v := nI 1) dL_law_767 (by decide) ?_
  refine ev_iadd (v := nI (i + 1)) dL_law_768 (nI_add _ _) ?_
  refine ev_sld (j := i + 1) (v := x1) dL_law_769 (am_ixn (by omega) hL) e1 ?_
  refine ev_callV (as := [.int x1]) (st := [.int (sp_evening A x1)]) dL_law_770 mfX7_evening lk_L_82 (ly_k h3.ly 65 rfl) (by decide) rfl (c_X7_evening G 0 A τ h.1 h3 x1) rfl rfl (Nat.le_of_ble_eq_true rfl) ⟨Nat.le_of_ble_eq_true rfl, Nat.le_of_ble_eq_true rfl⟩ (lw_hc2 (a := 0) (b := 0) hk hn (by decide) (by decide)) ?_
  rintro _ υ ⟨rfl, hI, f⟩
  refine ev_icmp_eq (tgt := 1592) dL_law_773 (by decide) (fun _ => ?_) (fun q => absurd rfl q)
  exact next A υ _ _ (lw_st h (wz_rf h.1) hX hI f.w) (by omega) (by omega)

set_option maxHeartbeats 400000 in
set_option maxRecDepth 100000 in
theorem law_16 {G : am_G} {nm : String} {A : am_S} {σ : am_M} {i k n : Nat} (h : lw_I A σ) (hi : i + 7 ≤ G.2.2.2.2.2.1) (hL : G.2.2.2.2.2.1 < 2 ^ 31) (hk : k + 3 ≤ 659291) (hn : n + 196 ≤ 7124374) (next : lw_N G nm i k n) : lw_E G nm 778 (lw_V i) σ k n := by
  generalize e1 : G.2.2.2.2.2.2 (i + 1) = x1
  generalize e2 : G.2.2.2.2.2.2 (i + 2) = x2
  show am_Ev G (mL nm) lw_M 659291 7124374 lw_T 778 [(0, .ref 0), (1, .ref 32), (2, .ref 65), (3, .int (nI i))] [] σ k n
  refine ev_aload_n dL_law_778 rfl rfl ?_
  refine ev_aload_n dL_law_779 rfl rfl ?_
  refine ev_iload_n dL_law_780 rfl rfl ?_
  refine ev_iconst (v := nI 1) dL_law_781 (by decide) ?_
  refine ev_iadd (v := nI (i + 1)) dL_law_782 (nI_add _ _) ?_
  refine ev_sld (j := i + 1) (v := x1) dL_law_783 (am_ixn (by omega) hL) e1 ?_
  refine ev_aload_n dL_law_784 rfl rfl ?_
  refine ev_iload_n dL_law_785 rfl rfl ?_
  refine ev_iconst (v := nI 2) dL_law_786 (by decide) ?_
  refine ev_iadd (v := nI (i + 2)) dL_law_787 (nI_add _ _) ?_
  refine ev_sld (j := i + 2) (v := x2) dL_law_788 (am_ixn (by omega) hL) e2 ?_
  refine ev_callV (as := [.int x1, .int x2]) (st := []) dL_law_789 mfX6_best lk_L_83 (ly_k h.2.2.1.ly 32 rfl) (by decide) rfl (c_X6_best G 0 A σ h.1 h.2.2.1 x1 x2) rfl rfl (Nat.le_of_ble_eq_true rfl) ⟨Nat.le_of_ble_eq_true rfl, Nat.le_of_ble_eq_true rfl⟩ (lw_hc hk hn (by decide) (by decide)) ?_
  rintro _ τ ⟨rfl, hX, hF⟩
  have h3 : iv_M A τ := h.2.2.2.L hX hF.L
  refine ev_aload_n dL_law_792 rfl rfl ?_
  refine ev_aload_n dL_law_793 rfl rfl ?_
  refine ev_iload_n dL_law_794 rfl rfl ?_
  refine ev_iconst (v := nI 1) dL_law_795 (by decide) ?_
  refine ev_iadd (v := nI (i + 1)) dL_law_796 (nI_add _ _) ?_
  refine ev_sld (j := i + 1) (v := x1) dL_law_797 (am_ixn (by omega) hL) e1 ?_
  refine ev_aload_n dL_law_798 rfl rfl ?_
  refine ev_iload_n dL_law_799 rfl rfl ?_
  refine ev_iconst (v := nI 2) dL_law_800 (by decide) ?_
  refine ev_iadd (v := nI (i + 2)) dL_law_801 (nI_add _ _) ?_
  refine ev_sld (j := i + 2) (v := x2) dL_law_802 (am_ixn (by omega) hL) e2 ?_
  refine ev_callV (as := [.int x1, .int x2]) (st := [.int (sp_best A x1 x2)]) dL_law_803 mfX7_best lk_L_86 (ly_k h3.ly 65 rfl) (by decide) rfl (c_X7_best G 0 A τ h.1 h3 x1 x2) rfl rfl (Nat.le_of_ble_eq_true rfl) ⟨Nat.le_of_ble_eq_true rfl, Nat.le_of_ble_eq_true rfl⟩ (lw_hc2 (a := 0) (b := 0) hk hn (by decide) (by decide)) ?_
  rintro _ υ ⟨rfl, hI, f⟩
  refine ev_icmp_eq (tgt := 1592) dL_law_806 (by decide) (fun _ => ?_) (fun q => absurd rfl q)
  exact next A υ _ _ (lw_st h (wz_rf h.1) hX hI f.w) (by omega) (by omega)

set_option maxHeartbeats 400000 in
set_option maxRecDepth 100000 in
theorem law_17 {G : am_G} {nm : String} {A : am_S} {σ : am_M} {i k n : Nat} (h : lw_I A σ) (hi : i + 7 ≤ G.2.2.2.2.2.1) (hL : G.2.2.2.2.2.1 < 2 ^ 31) (hk : k + 3 ≤ 659291) (hn : n + 196 ≤ 7124374) (next : lw_N G nm i k n) : lw_E G nm 811 (lw_V i) σ k n := by
  generalize e1 : G.2.2.2.2.2.2 (i + 1) = x1
  generalize e2 : G.2.2.2.2.2.2 (i + 2) = x2
  show am_Ev G (mL nm) lw_M 659291 7124374 lw_T 811 [(0, .ref 0), (1, .ref 32), (2, .ref 65), (3, .int (nI i))] [] σ k n
  refine ev_aload_n dL_law_811 rfl rfl ?_
  refine ev_aload_n dL_law_812 rfl rfl ?_
  refine ev_iload_n dL_law_813 rfl rfl ?_
  refine ev_iconst (v := nI 1) dL_law_814 (by decide) ?_
  refine ev_iadd (v := nI (i + 1)) dL_law_815 (nI_add _ _) ?_
  refine ev_sld (j := i + 1) (v := x1) dL_law_816 (am_ixn (by omega) hL) e1 ?_
  refine ev_aload_n dL_law_817 rfl rfl ?_
  refine ev_iload_n dL_law_818 rfl rfl ?_
  refine ev_iconst (v := nI 2) dL_law_819 (by decide) ?_
  refine ev_iadd (v := nI (i + 2)) dL_law_820 (nI_add _ _) ?_
  refine ev_sld (j := i + 2) (v := x2) dL_law_821 (am_ixn (by omega) hL) e2 ?_
  refine ev_callV (as := [.int x1, .int x2]) (st := []) dL_law_822 mfX6_join lk_L_87 (ly_k h.2.2.1.ly 32 rfl) (by decide) rfl (c_X6_join G 0 A σ h.1 h.2.2.1 x1 x2) rfl rfl (Nat.le_of_ble_eq_true rfl) ⟨Nat.le_of_ble_eq_true rfl, Nat.le_of_ble_eq_true rfl⟩ (lw_hc hk hn (by decide) (by decide)) ?_
  rintro _ τ ⟨rfl, hX, hF⟩
  have h3 : iv_M A τ := h.2.2.2.L hX hF.L
  refine ev_aload_n dL_law_825 rfl rfl ?_
  refine ev_aload_n dL_law_826 rfl rfl ?_
  refine ev_iload_n dL_law_827 rfl rfl ?_
  refine ev_iconst (v := nI 1) dL_law_828 (by decide) ?_
  refine ev_iadd (v := nI (i + 1)) dL_law_829 (nI_add _ _) ?_
  refine ev_sld (j := i + 1) (v := x1) dL_law_830 (am_ixn (by omega) hL) e1 ?_
  refine ev_aload_n dL_law_831 rfl rfl ?_
  refine ev_iload_n dL_law_832 rfl rfl ?_
  refine ev_iconst (v := nI 2) dL_law_833 (by decide) ?_
  refine ev_iadd (v := nI (i + 2)) dL_law_834 (nI_add _ _) ?_
  refine ev_sld (j := i + 2) (v := x2) dL_law_835 (am_ixn (by omega) hL) e2 ?_
  refine ev_callV (as := [.int x1, .int x2]) (st := [.int (sp_join A x1 x2)]) dL_law_836 mfX7_join lk_L_90 (ly_k h3.ly 65 rfl) (by decide) rfl (c_X7_join G 0 A τ h.1 h3 x1 x2) rfl rfl (Nat.le_of_ble_eq_true rfl) ⟨Nat.le_of_ble_eq_true rfl, Nat.le_of_ble_eq_true rfl⟩ (lw_hc2 (a := 0) (b := 0) hk hn (by decide) (by decide)) ?_
  rintro _ υ ⟨rfl, hI, f⟩
  refine ev_icmp_eq (tgt := 1592) dL_law_839 (by decide) (fun _ => ?_) (fun q => absurd rfl q)
  exact next A υ _ _ (lw_st h (wz_rf h.1) hX hI f.w) (by omega) (by omega)

set_option maxHeartbeats 400000 in
set_option maxRecDepth 100000 in
theorem law_18 {G : am_G} {nm : String} {A : am_S} {σ : am_M} {i k n : Nat} (h : lw_I A σ) (hi : i + 7 ≤ G.2.2.2.2.2.1) (hL : G.2.2.2.2.2.1 < 2 ^ 31) (hk : k + 3 ≤ 659291) (hn : n + 196 ≤ 7124374) (next : lw_N G nm i k n) : lw_E G nm 844 (lw_V i) σ k n := by
  generalize e1 : G.2.2.2.2.2.2 (i + 1) = x1
  generalize e2 : G.2.2.2.2.2.2 (i + 2) = x2
  show am_Ev G (mL nm) lw_M 659291 7124374 lw_T 844 [(0, .ref 0), (1, .ref 32), (2, .ref 65), (3, .int (nI i))] [] σ k n
  refine ev_aload_n dL_law_844 rfl rfl ?_
  refine ev_aload_n dL_law_845 rfl rfl ?_
  refine ev_iload_n dL_law_846 rfl rfl ?_
  refine ev_iconst (v := nI 1) dL_law_847 (by decide) ?_
  refine ev_iadd (v := nI (i + 1)) dL_law_848 (nI_add _ _) ?_
  refine ev_sld (j := i + 1) (v := x1) dL_law_849 (am_ixn (by omega) hL) e1 ?_
  refine ev_aload_n dL_law_850 rfl rfl ?_
  refine ev_iload_n dL_law_851 rfl rfl ?_
  refine ev_iconst (v := nI 2) dL_law_852 (by decide) ?_
  refine ev_iadd (v := nI (i + 2)) dL_law_853 (nI_add _ _) ?_
  refine ev_sld (j := i + 2) (v := x2) dL_law_854 (am_ixn (by omega) hL) e2 ?_
  refine ev_callV (as := [.int x1, .int x2]) (st := []) dL_law_855 mfX6_leave lk_L_91 (ly_k h.2.2.1.ly 32 rfl) (by decide) rfl (c_X6_leave G 0 A σ h.1 h.2.2.1 x1 x2) rfl rfl (Nat.le_of_ble_eq_true rfl) ⟨Nat.le_of_ble_eq_true rfl, Nat.le_of_ble_eq_true rfl⟩ (lw_hc hk hn (by decide) (by decide)) ?_
  rintro _ τ ⟨rfl, hX, hF⟩
  have h3 : iv_M A τ := h.2.2.2.L hX hF.L
  refine ev_aload_n dL_law_858 rfl rfl ?_
  refine ev_aload_n dL_law_859 rfl rfl ?_
  refine ev_iload_n dL_law_860 rfl rfl ?_
  refine ev_iconst (v := nI 1) dL_law_861 (by decide) ?_
  refine ev_iadd (v := nI (i + 1)) dL_law_862 (nI_add _ _) ?_
  refine ev_sld (j := i + 1) (v := x1) dL_law_863 (am_ixn (by omega) hL) e1 ?_
  refine ev_aload_n dL_law_864 rfl rfl ?_
  refine ev_iload_n dL_law_865 rfl rfl ?_
  refine ev_iconst (v := nI 2) dL_law_866 (by decide) ?_
  refine ev_iadd (v := nI (i + 2)) dL_law_867 (nI_add _ _) ?_
  refine ev_sld (j := i + 2) (v := x2) dL_law_868 (am_ixn (by omega) hL) e2 ?_
  refine ev_callV (as := [.int x1, .int x2]) (st := [.int (sp_leave A x1 x2)]) dL_law_869 mfX7_leave lk_L_94 (ly_k h3.ly 65 rfl) (by decide) rfl (c_X7_leave G 0 A τ h.1 h3 x1 x2) rfl rfl (Nat.le_of_ble_eq_true rfl) ⟨Nat.le_of_ble_eq_true rfl, Nat.le_of_ble_eq_true rfl⟩ (lw_hc2 (a := 0) (b := 0) hk hn (by decide) (by decide)) ?_
  rintro _ υ ⟨rfl, hI, f⟩
  refine ev_icmp_eq (tgt := 1592) dL_law_872 (by decide) (fun _ => ?_) (fun q => absurd rfl q)
  exact next A υ _ _ (lw_st h (wz_rf h.1) hX hI f.w) (by omega) (by omega)

set_option maxHeartbeats 400000 in
set_option maxRecDepth 100000 in
theorem law_19 {G : am_G} {nm : String} {A : am_S} {σ : am_M} {i k n : Nat} (h : lw_I A σ) (hi : i + 7 ≤ G.2.2.2.2.2.1) (hL : G.2.2.2.2.2.1 < 2 ^ 31) (hk : k + 3 ≤ 659291) (hn : n + 196 ≤ 7124374) (next : lw_N G nm i k n) : lw_E G nm 877 (lw_V i) σ k n := by
  generalize e1 : G.2.2.2.2.2.2 (i + 1) = x1
  show am_Ev G (mL nm) lw_M 659291 7124374 lw_T 877 [(0, .ref 0), (1, .ref 32), (2, .ref 65), (3, .int (nI i))] [] σ k n
  refine ev_aload_n dL_law_877 rfl rfl ?_
  refine ev_aload_n dL_law_878 rfl rfl ?_
  refine ev_iload_n dL_law_879 rfl rfl ?_
  refine ev_iconst (v := nI 1) dL_law_880 (by decide) ?_
  refine ev_iadd (v := nI (i + 1)) dL_law_881 (nI_add _ _) ?_
  refine ev_sld (j := i + 1) (v := x1) dL_law_882 (am_ixn (by omega) hL) e1 ?_
  refine ev_callV (as := [.int x1]) (st := []) dL_law_883 mfX6_cover lk_L_95 (ly_k h.2.2.1.ly 32 rfl) (by decide) rfl (c_X6_cover G 0 A σ h.1 h.2.2.1 x1) rfl rfl (Nat.le_of_ble_eq_true rfl) ⟨Nat.le_of_ble_eq_true rfl, Nat.le_of_ble_eq_true rfl⟩ (lw_hc hk hn (by decide) (by decide)) ?_
  rintro _ τ ⟨rfl, hX, hF⟩
  have h3 : iv_M A τ := h.2.2.2.L hX hF.L
  refine ev_aload_n dL_law_886 rfl rfl ?_
  refine ev_aload_n dL_law_887 rfl rfl ?_
  refine ev_iload_n dL_law_888 rfl rfl ?_
  refine ev_iconst (v := nI 1) dL_law_889 (by decide) ?_
  refine ev_iadd (v := nI (i + 1)) dL_law_890 (nI_add _ _) ?_
  refine ev_sld (j := i + 1) (v := x1) dL_law_891 (am_ixn (by omega) hL) e1 ?_
  refine ev_callV (as := [.int x1]) (st := [.int (sp_cover A x1)]) dL_law_892 mfX7_cover lk_L_98 (ly_k h3.ly 65 rfl) (by decide) rfl (c_X7_cover G 0 A τ h.1 h3 x1) rfl rfl (Nat.le_of_ble_eq_true rfl) ⟨Nat.le_of_ble_eq_true rfl, Nat.le_of_ble_eq_true rfl⟩ (lw_hc2 (a := 0) (b := 0) hk hn (by decide) (by decide)) ?_
  rintro _ υ ⟨rfl, hI, f⟩
  refine ev_icmp_eq (tgt := 1592) dL_law_895 (by decide) (fun _ => ?_) (fun q => absurd rfl q)
  exact next A υ _ _ (lw_st h (wz_rf h.1) hX hI f.w) (by omega) (by omega)

set_option maxHeartbeats 400000 in
set_option maxRecDepth 100000 in
theorem law_20 {G : am_G} {nm : String} {A : am_S} {σ : am_M} {i k n : Nat} (h : lw_I A σ) (hi : i + 7 ≤ G.2.2.2.2.2.1) (hL : G.2.2.2.2.2.1 < 2 ^ 31) (hk : k + 3 ≤ 659291) (hn : n + 196 ≤ 7124374) (next : lw_N G nm i k n) : lw_E G nm 900 (lw_V i) σ k n := by
  generalize e1 : G.2.2.2.2.2.2 (i + 1) = x1
  generalize e2 : G.2.2.2.2.2.2 (i + 2) = x2
  generalize e3 : G.2.2.2.2.2.2 (i + 3) = x3
  show am_Ev G (mL nm) lw_M 659291 7124374 lw_T 900 [(0, .ref 0), (1, .ref 32), (2, .ref 65), (3, .int (nI i))] [] σ k n
  refine ev_aload_n dL_law_900 rfl rfl ?_
  refine ev_aload_n dL_law_901 rfl rfl ?_
  refine ev_iload_n dL_law_902 rfl rfl ?_
  refine ev_iconst (v := nI 1) dL_law_903 (by decide) ?_
  refine ev_iadd (v := nI (i + 1)) dL_law_904 (nI_add _ _) ?_
  refine ev_sld (j := i + 1) (v := x1) dL_law_905 (am_ixn (by omega) hL) e1 ?_
  refine ev_aload_n dL_law_906 rfl rfl ?_
  refine ev_iload_n dL_law_907 rfl rfl ?_
  refine ev_iconst (v := nI 2) dL_law_908 (by decide) ?_
  refine ev_iadd (v := nI (i + 2)) dL_law_909 (nI_add _ _) ?_
  refine ev_sld (j := i + 2) (v := x2) dL_law_910 (am_ixn (by omega) hL) e2 ?_
  refine ev_aload_n dL_law_911 rfl rfl ?_
  refine ev_iload_n dL_law_912 rfl rfl ?_
  refine ev_iconst (v := nI 3) dL_law_913 (by decide) ?_
  refine ev_iadd (v := nI (i + 3)) dL_law_914 (nI_add _ _) ?_
  refine ev_sld (j := i + 3) (v := x3) dL_law_915 (am_ixn (by omega) hL) e3 ?_
  refine ev_callV (as := [.int x1, .int x2, .int x3]) (st := []) dL_law_916 mfX6_hire lk_L_99 (ly_k h.2.2.1.ly 32 rfl) (by decide) rfl (c_X6_hire G 0 A σ h.1 h.2.2.1 x1 x2 x3) rfl rfl (Nat.le_of_ble_eq_true rfl) ⟨Nat.le_of_ble_eq_true rfl, Nat.le_of_ble_eq_true rfl⟩ (lw_hc hk hn (by decide) (by decide)) ?_
  rintro _ τ ⟨rfl, hX, hF⟩
  have h3 : iv_M A τ := h.2.2.2.L hX hF.L
  refine ev_aload_n dL_law_919 rfl rfl ?_
  refine ev_aload_n dL_law_920 rfl rfl ?_
  refine ev_iload_n dL_law_921 rfl rfl ?_
  refine ev_iconst (v := nI 1) dL_law_922 (by decide) ?_
  refine ev_iadd (v := nI (i + 1)) dL_law_923 (nI_add _ _) ?_
  refine ev_sld (j := i + 1) (v := x1) dL_law_924 (am_ixn (by omega) hL) e1 ?_
  refine ev_aload_n dL_law_925 rfl rfl ?_
  refine ev_iload_n dL_law_926 rfl rfl ?_
  refine ev_iconst (v := nI 2) dL_law_927 (by decide) ?_
  refine ev_iadd (v := nI (i + 2)) dL_law_928 (nI_add _ _) ?_
  refine ev_sld (j := i + 2) (v := x2) dL_law_929 (am_ixn (by omega) hL) e2 ?_
  refine ev_aload_n dL_law_930 rfl rfl ?_
  refine ev_iload_n dL_law_931 rfl rfl ?_
  refine ev_iconst (v := nI 3) dL_law_932 (by decide) ?_
  refine ev_iadd (v := nI (i + 3)) dL_law_933 (nI_add _ _) ?_
  refine ev_sld (j := i + 3) (v := x3) dL_law_934 (am_ixn (by omega) hL) e3 ?_
  refine ev_callV (as := [.int x1, .int x2, .int x3]) (st := [.int (sp_hire A x1 x2 x3)]) dL_law_935 mfX7_hire lk_L_102 (ly_k h3.ly 65 rfl) (by decide) rfl (c_X7_hire G 0 A τ h.1 h3 x1 x2 x3) rfl rfl (Nat.le_of_ble_eq_true rfl) ⟨Nat.le_of_ble_eq_true rfl, Nat.le_of_ble_eq_true rfl⟩ (lw_hc2 (a := 0) (b := 0) hk hn (by decide) (by decide)) ?_
  rintro _ υ ⟨rfl, hI, f⟩
  refine ev_icmp_eq (tgt := 1592) dL_law_938 (by decide) (fun _ => ?_) (fun q => absurd rfl q)
  exact next A υ _ _ (lw_st h (wz_rf h.1) hX hI f.w) (by omega) (by omega)

set_option maxHeartbeats 400000 in
set_option maxRecDepth 100000 in
theorem law_21 {G : am_G} {nm : String} {A : am_S} {σ : am_M} {i k n : Nat} (h : lw_I A σ) (hi : i + 7 ≤ G.2.2.2.2.2.1) (hL : G.2.2.2.2.2.1 < 2 ^ 31) (hk : k + 3 ≤ 659291) (hn : n + 196 ≤ 7124374) (next : lw_N G nm i k n) : lw_E G nm 943 (lw_V i) σ k n := by
  generalize e1 : G.2.2.2.2.2.2 (i + 1) = x1
  show am_Ev G (mL nm) lw_M 659291 7124374 lw_T 943 [(0, .ref 0), (1, .ref 32), (2, .ref 65), (3, .int (nI i))] [] σ k n
  refine ev_aload_n dL_law_943 rfl rfl ?_
  refine ev_aload_n dL_law_944 rfl rfl ?_
  refine ev_iload_n dL_law_945 rfl rfl ?_
  refine ev_iconst (v := nI 1) dL_law_946 (by decide) ?_
  refine ev_iadd (v := nI (i + 1)) dL_law_947 (nI_add _ _) ?_
  refine ev_sld (j := i + 1) (v := x1) dL_law_948 (am_ixn (by omega) hL) e1 ?_
  refine ev_callV (as := [.int x1]) (st := []) dL_law_949 mfX6_price lk_L_103 (ly_k h.2.2.1.ly 32 rfl) (by decide) rfl (c_X6_price G 0 A σ h.1 h.2.2.1 x1) rfl rfl (Nat.le_of_ble_eq_true rfl) ⟨Nat.le_of_ble_eq_true rfl, Nat.le_of_ble_eq_true rfl⟩ (lw_hc hk hn (by decide) (by decide)) ?_
  rintro _ τ ⟨rfl, hX, hF⟩
  have h3 : iv_M A τ := h.2.2.2.L hX hF.L
  refine ev_aload_n dL_law_952 rfl rfl ?_
  refine ev_aload_n dL_law_953 rfl rfl ?_
  refine ev_iload_n dL_law_954 rfl rfl ?_
  refine ev_iconst (v := nI 1) dL_law_955 (by decide) ?_
  refine ev_iadd (v := nI (i + 1)) dL_law_956 (nI_add _ _) ?_
  refine ev_sld (j := i + 1) (v := x1) dL_law_957 (am_ixn (by omega) hL) e1 ?_
  refine ev_callV (as := [.int x1]) (st := [.int (sp_price A x1)]) dL_law_958 mfX7_price lk_L_106 (ly_k h3.ly 65 rfl) (by decide) rfl (c_X7_price G 0 A τ h.1 h3 x1) rfl rfl (Nat.le_of_ble_eq_true rfl) ⟨Nat.le_of_ble_eq_true rfl, Nat.le_of_ble_eq_true rfl⟩ (lw_hc2 (a := 0) (b := 0) hk hn (by decide) (by decide)) ?_
  rintro _ υ ⟨rfl, hI, f⟩
  refine ev_icmp_eq (tgt := 1592) dL_law_961 (by decide) (fun _ => ?_) (fun q => absurd rfl q)
  exact next A υ _ _ (lw_st h (wz_rf h.1) hX hI f.w) (by omega) (by omega)

set_option maxHeartbeats 400000 in
set_option maxRecDepth 100000 in
theorem law_22 {G : am_G} {nm : String} {A : am_S} {σ : am_M} {i k n : Nat} (h : lw_I A σ) (hi : i + 7 ≤ G.2.2.2.2.2.1) (hL : G.2.2.2.2.2.1 < 2 ^ 31) (hk : k + 3 ≤ 659291) (hn : n + 196 ≤ 7124374) (next : lw_N G nm i k n) : lw_E G nm 966 (lw_V i) σ k n := by
  generalize e1 : G.2.2.2.2.2.2 (i + 1) = x1
  generalize e2 : G.2.2.2.2.2.2 (i + 2) = x2
  show am_Ev G (mL nm) lw_M 659291 7124374 lw_T 966 [(0, .ref 0), (1, .ref 32), (2, .ref 65), (3, .int (nI i))] [] σ k n
  refine ev_aload_n dL_law_966 rfl rfl ?_
  refine ev_aload_n dL_law_967 rfl rfl ?_
  refine ev_iload_n dL_law_968 rfl rfl ?_
  refine ev_iconst (v := nI 1) dL_law_969 (by decide) ?_
  refine ev_iadd (v := nI (i + 1)) dL_law_970 (nI_add _ _) ?_
  refine ev_sld (j := i + 1) (v := x1) dL_law_971 (am_ixn (by omega) hL) e1 ?_
  refine ev_aload_n dL_law_972 rfl rfl ?_
  refine ev_iload_n dL_law_973 rfl rfl ?_
  refine ev_iconst (v := nI 2) dL_law_974 (by decide) ?_
  refine ev_iadd (v := nI (i + 2)) dL_law_975 (nI_add _ _) ?_
  refine ev_sld (j := i + 2) (v := x2) dL_law_976 (am_ixn (by omega) hL) e2 ?_
  refine ev_callV (as := [.int x1, .int x2]) (st := []) dL_law_977 mfX6_close lk_L_107 (ly_k h.2.2.1.ly 32 rfl) (by decide) rfl (c_X6_close G 0 A σ h.1 h.2.2.1 x1 x2) rfl rfl (Nat.le_of_ble_eq_true rfl) ⟨Nat.le_of_ble_eq_true rfl, Nat.le_of_ble_eq_true rfl⟩ (lw_hc hk hn (by decide) (by decide)) ?_
  rintro _ τ ⟨rfl, hX, hF⟩
  have h3 : iv_M A τ := h.2.2.2.L hX hF.L
  refine ev_aload_n dL_law_980 rfl rfl ?_
  refine ev_aload_n dL_law_981 rfl rfl ?_
  refine ev_iload_n dL_law_982 rfl rfl ?_
  refine ev_iconst (v := nI 1) dL_law_983 (by decide) ?_
  refine ev_iadd (v := nI (i + 1)) dL_law_984 (nI_add _ _) ?_
  refine ev_sld (j := i + 1) (v := x1) dL_law_985 (am_ixn (by omega) hL) e1 ?_
  refine ev_aload_n dL_law_986 rfl rfl ?_
  refine ev_iload_n dL_law_987 rfl rfl ?_
  refine ev_iconst (v := nI 2) dL_law_988 (by decide) ?_
  refine ev_iadd (v := nI (i + 2)) dL_law_989 (nI_add _ _) ?_
  refine ev_sld (j := i + 2) (v := x2) dL_law_990 (am_ixn (by omega) hL) e2 ?_
  refine ev_callV (as := [.int x1, .int x2]) (st := [.int (sp_close A x1 x2)]) dL_law_991 mfX7_close lk_L_110 (ly_k h3.ly 65 rfl) (by decide) rfl (c_X7_close G 0 A τ h.1 h3 x1 x2) rfl rfl (Nat.le_of_ble_eq_true rfl) ⟨Nat.le_of_ble_eq_true rfl, Nat.le_of_ble_eq_true rfl⟩ (lw_hc2 (a := 0) (b := 0) hk hn (by decide) (by decide)) ?_
  rintro _ υ ⟨rfl, hI, f⟩
  refine ev_icmp_eq (tgt := 1592) dL_law_994 (by decide) (fun _ => ?_) (fun q => absurd rfl q)
  exact next A υ _ _ (lw_st h (wz_rf h.1) hX hI f.w) (by omega) (by omega)

set_option maxHeartbeats 400000 in
set_option maxRecDepth 100000 in
theorem law_23 {G : am_G} {nm : String} {A : am_S} {σ : am_M} {i k n : Nat} (h : lw_I A σ) (hi : i + 7 ≤ G.2.2.2.2.2.1) (hL : G.2.2.2.2.2.1 < 2 ^ 31) (hk : k + 3 ≤ 659291) (hn : n + 196 ≤ 7124374) (next : lw_N G nm i k n) : lw_E G nm 999 (lw_V i) σ k n := by
  generalize e1 : G.2.2.2.2.2.2 (i + 1) = x1
  show am_Ev G (mL nm) lw_M 659291 7124374 lw_T 999 [(0, .ref 0), (1, .ref 32), (2, .ref 65), (3, .int (nI i))] [] σ k n
  refine ev_aload_n dL_law_999 rfl rfl ?_
  refine ev_aload_n dL_law_1000 rfl rfl ?_
  refine ev_iload_n dL_law_1001 rfl rfl ?_
  refine ev_iconst (v := nI 1) dL_law_1002 (by decide) ?_
  refine ev_iadd (v := nI (i + 1)) dL_law_1003 (nI_add _ _) ?_
  refine ev_sld (j := i + 1) (v := x1) dL_law_1004 (am_ixn (by omega) hL) e1 ?_
  refine ev_callV (as := [.int x1]) (st := []) dL_law_1005 mfX6_good lk_L_111 (ly_k h.2.2.1.ly 32 rfl) (by decide) rfl (c_X6_good G 0 A σ h.1 h.2.2.1 x1) rfl rfl (Nat.le_of_ble_eq_true rfl) ⟨Nat.le_of_ble_eq_true rfl, Nat.le_of_ble_eq_true rfl⟩ (lw_hc hk hn (by decide) (by decide)) ?_
  rintro _ τ ⟨rfl, hX, hF⟩
  have h3 : iv_M A τ := h.2.2.2.L hX hF.L
  refine ev_aload_n dL_law_1008 rfl rfl ?_
  refine ev_aload_n dL_law_1009 rfl rfl ?_
  refine ev_iload_n dL_law_1010 rfl rfl ?_
  refine ev_iconst (v := nI 1) dL_law_1011 (by decide) ?_
  refine ev_iadd (v := nI (i + 1)) dL_law_1012 (nI_add _ _) ?_
  refine ev_sld (j := i + 1) (v := x1) dL_law_1013 (am_ixn (by omega) hL) e1 ?_
  refine ev_callV (as := [.int x1]) (st := [.int (sp_good A x1)]) dL_law_1014 mfX7_good lk_L_114 (ly_k h3.ly 65 rfl) (by decide) rfl (c_X7_good G 0 A τ h.1 h3 x1) rfl rfl (Nat.le_of_ble_eq_true rfl) ⟨Nat.le_of_ble_eq_true rfl, Nat.le_of_ble_eq_true rfl⟩ (lw_hc2 (a := 0) (b := 0) hk hn (by decide) (by decide)) ?_
  rintro _ υ ⟨rfl, hI, f⟩
  refine ev_icmp_eq (tgt := 1592) dL_law_1017 (by decide) (fun _ => ?_) (fun q => absurd rfl q)
  exact next A υ _ _ (lw_st h (wz_rf h.1) hX hI f.w) (by omega) (by omega)

set_option maxHeartbeats 400000 in
set_option maxRecDepth 100000 in
theorem law_24 {G : am_G} {nm : String} {A : am_S} {σ : am_M} {i k n : Nat} (h : lw_I A σ) (hi : i + 7 ≤ G.2.2.2.2.2.1) (hL : G.2.2.2.2.2.1 < 2 ^ 31) (hk : k + 3 ≤ 659291) (hn : n + 196 ≤ 7124374) (next : lw_N G nm i k n) : lw_E G nm 1022 (lw_V i) σ k n := by
  generalize e1 : G.2.2.2.2.2.2 (i + 1) = x1
  generalize e2 : G.2.2.2.2.2.2 (i + 2) = x2
  generalize e3 : G.2.2.2.2.2.2 (i + 3) = x3
  show am_Ev G (mL nm) lw_M 659291 7124374 lw_T 1022 [(0, .ref 0), (1, .ref 32), (2, .ref 65), (3, .int (nI i))] [] σ k n
  refine ev_aload_n dL_law_1022 rfl rfl ?_
  refine ev_aload_n dL_law_1023 rfl rfl ?_
  refine ev_iload_n dL_law_1024 rfl rfl ?_
  refine ev_iconst (v := nI 1) dL_law_1025 (by decide) ?_
  refine ev_iadd (v := nI (i + 1)) dL_law_1026 (nI_add _ _) ?_
  refine ev_sld (j := i + 1) (v := x1) dL_law_1027 (am_ixn (by omega) hL) e1 ?_
  refine ev_aload_n dL_law_1028 rfl rfl ?_
  refine ev_iload_n dL_law_1029 rfl rfl ?_
  refine ev_iconst (v := nI 2) dL_law_1030 (by decide) ?_
  refine ev_iadd (v := nI (i + 2)) dL_law_1031 (nI_add _ _) ?_
  refine ev_sld (j := i + 2) (v := x2) dL_law_1032 (am_ixn (by omega) hL) e2 ?_
  refine ev_aload_n dL_law_1033 rfl rfl ?_
  refine ev_iload_n dL_law_1034 rfl rfl ?_
  refine ev_iconst (v := nI 3) dL_law_1035 (by decide) ?_
  refine ev_iadd (v := nI (i + 3)) dL_law_1036 (nI_add _ _) ?_
  refine ev_sld (j := i + 3) (v := x3) dL_law_1037 (am_ixn (by omega) hL) e3 ?_
  refine ev_callV (as := [.int x1, .int x2, .int x3]) (st := []) dL_law_1038 mfX6_alike lk_L_115 (ly_k h.2.2.1.ly 32 rfl) (by decide) rfl (c_X6_alike G 0 A σ h.1 h.2.2.1 x1 x2 x3) rfl rfl (Nat.le_of_ble_eq_true rfl) ⟨Nat.le_of_ble_eq_true rfl, Nat.le_of_ble_eq_true rfl⟩ (lw_hc hk hn (by decide) (by decide)) ?_
  rintro _ τ ⟨rfl, hX, hF⟩
  have h3 : iv_M A τ := h.2.2.2.L hX hF.L
  refine ev_aload_n dL_law_1041 rfl rfl ?_
  refine ev_aload_n dL_law_1042 rfl rfl ?_
  refine ev_iload_n dL_law_1043 rfl rfl ?_
  refine ev_iconst (v := nI 1) dL_law_1044 (by decide) ?_
  refine ev_iadd (v := nI (i + 1)) dL_law_1045 (nI_add _ _) ?_
  refine ev_sld (j := i + 1) (v := x1) dL_law_1046 (am_ixn (by omega) hL) e1 ?_
  refine ev_aload_n dL_law_1047 rfl rfl ?_
  refine ev_iload_n dL_law_1048 rfl rfl ?_
  refine ev_iconst (v := nI 2) dL_law_1049 (by decide) ?_
  refine ev_iadd (v := nI (i + 2)) dL_law_1050 (nI_add _ _) ?_
  refine ev_sld (j := i + 2) (v := x2) dL_law_1051 (am_ixn (by omega) hL) e2 ?_
  refine ev_aload_n dL_law_1052 rfl rfl ?_
  refine ev_iload_n dL_law_1053 rfl rfl ?_
  refine ev_iconst (v := nI 3) dL_law_1054 (by decide) ?_
  refine ev_iadd (v := nI (i + 3)) dL_law_1055 (nI_add _ _) ?_
  refine ev_sld (j := i + 3) (v := x3) dL_law_1056 (am_ixn (by omega) hL) e3 ?_
  refine ev_callV (as := [.int x1, .int x2, .int x3]) (st := [.long (sp_alike A x1 x2 x3)]) dL_law_1057 mfX7_alike lk_L_119 (ly_k h3.ly 65 rfl) (by decide) rfl (c_X7_alike G 0 A τ h.1 h3 x1 x2 x3) rfl rfl (Nat.le_of_ble_eq_true rfl) ⟨Nat.le_of_ble_eq_true rfl, Nat.le_of_ble_eq_true rfl⟩ (lw_hc2 (a := 0) (b := 0) hk hn (by decide) (by decide)) ?_
  rintro _ υ ⟨rfl, hI, f⟩
  refine ev_lcmp (v := 0) dL_law_1060 lg_cmpz ?_
  refine ev_if_eq (tgt := 1592) dL_law_1061 (by decide) (fun _ => ?_) (fun q => absurd rfl q)
  exact next A υ _ _ (lw_st h (wz_rf h.1) hX hI f.w) (by omega) (by omega)

set_option maxHeartbeats 400000 in
set_option maxRecDepth 100000 in
theorem law_25 {G : am_G} {nm : String} {A : am_S} {σ : am_M} {i k n : Nat} (h : lw_I A σ) (hi : i + 7 ≤ G.2.2.2.2.2.1) (hL : G.2.2.2.2.2.1 < 2 ^ 31) (hk : k + 3 ≤ 659291) (hn : n + 196 ≤ 7124374) (next : lw_N G nm i k n) : lw_E G nm 1066 (lw_V i) σ k n := by
  generalize e1 : G.2.2.2.2.2.2 (i + 1) = x1
  show am_Ev G (mL nm) lw_M 659291 7124374 lw_T 1066 [(0, .ref 0), (1, .ref 32), (2, .ref 65), (3, .int (nI i))] [] σ k n
  refine ev_aload_n dL_law_1066 rfl rfl ?_
  refine ev_aload_n dL_law_1067 rfl rfl ?_
  refine ev_iload_n dL_law_1068 rfl rfl ?_
  refine ev_iconst (v := nI 1) dL_law_1069 (by decide) ?_
  refine ev_iadd (v := nI (i + 1)) dL_law_1070 (nI_add _ _) ?_
  refine ev_sld (j := i + 1) (v := x1) dL_law_1071 (am_ixn (by omega) hL) e1 ?_
  refine ev_callV (as := [.int x1]) (st := []) dL_law_1072 mfX6_change lk_L_120 (ly_k h.2.2.1.ly 32 rfl) (by decide) rfl (c_X6_change G 0 A σ h.1 h.2.2.1 x1) rfl rfl (Nat.le_of_ble_eq_true rfl) ⟨Nat.le_of_ble_eq_true rfl, Nat.le_of_ble_eq_true rfl⟩ (lw_hc hk hn (by decide) (by decide)) ?_
  rintro _ τ ⟨rfl, hX, hF⟩
  have h3 : iv_M A τ := h.2.2.2.L hX hF.L
  refine ev_aload_n dL_law_1075 rfl rfl ?_
  refine ev_aload_n dL_law_1076 rfl rfl ?_
  refine ev_iload_n dL_law_1077 rfl rfl ?_
  refine ev_iconst (v := nI 1) dL_law_1078 (by decide) ?_
  refine ev_iadd (v := nI (i + 1)) dL_law_1079 (nI_add _ _) ?_
  refine ev_sld (j := i + 1) (v := x1) dL_law_1080 (am_ixn (by omega) hL) e1 ?_
  refine ev_callV (as := [.int x1]) (st := [.int (sp_change A x1)]) dL_law_1081 mfX7_change lk_L_123 (ly_k h3.ly 65 rfl) (by decide) rfl (c_X7_change G 0 A τ h.1 h3 x1) rfl rfl (Nat.le_of_ble_eq_true rfl) ⟨Nat.le_of_ble_eq_true rfl, Nat.le_of_ble_eq_true rfl⟩ (lw_hc2 (a := 0) (b := 0) hk hn (by decide) (by decide)) ?_
  rintro _ υ ⟨rfl, hI, f⟩
  refine ev_icmp_eq (tgt := 1592) dL_law_1084 (by decide) (fun _ => ?_) (fun q => absurd rfl q)
  exact next A υ _ _ (lw_st h (wz_rf h.1) hX hI f.w) (by omega) (by omega)

set_option maxHeartbeats 400000 in
set_option maxRecDepth 100000 in
theorem law_26 {G : am_G} {nm : String} {A : am_S} {σ : am_M} {i k n : Nat} (h : lw_I A σ) (hi : i + 7 ≤ G.2.2.2.2.2.1) (hL : G.2.2.2.2.2.1 < 2 ^ 31) (hk : k + 3 ≤ 659291) (hn : n + 196 ≤ 7124374) (next : lw_N G nm i k n) : lw_E G nm 1089 (lw_V i) σ k n := by
  generalize e1 : G.2.2.2.2.2.2 (i + 1) = x1
  generalize e2 : G.2.2.2.2.2.2 (i + 2) = x2
  show am_Ev G (mL nm) lw_M 659291 7124374 lw_T 1089 [(0, .ref 0), (1, .ref 32), (2, .ref 65), (3, .int (nI i))] [] σ k n
  refine ev_aload_n dL_law_1089 rfl rfl ?_
  refine ev_aload_n dL_law_1090 rfl rfl ?_
  refine ev_iload_n dL_law_1091 rfl rfl ?_
  refine ev_iconst (v := nI 1) dL_law_1092 (by decide) ?_
  refine ev_iadd (v := nI (i + 1)) dL_law_1093 (nI_add _ _) ?_
  refine ev_sld (j := i + 1) (v := x1) dL_law_1094 (am_ixn (by omega) hL) e1 ?_
  refine ev_aload_n dL_law_1095 rfl rfl ?_
  refine ev_iload_n dL_law_1096 rfl rfl ?_
  refine ev_iconst (v := nI 2) dL_law_1097 (by decide) ?_
  refine ev_iadd (v := nI (i + 2)) dL_law_1098 (nI_add _ _) ?_
  refine ev_sld (j := i + 2) (v := x2) dL_law_1099 (am_ixn (by omega) hL) e2 ?_
  refine ev_callV (as := [.int x1, .int x2]) (st := []) dL_law_1100 mfX6_judge lk_L_124 (ly_k h.2.2.1.ly 32 rfl) (by decide) rfl (c_X6_judge G 0 A σ h.1 h.2.2.1 x1 x2) rfl rfl (Nat.le_of_ble_eq_true rfl) ⟨Nat.le_of_ble_eq_true rfl, Nat.le_of_ble_eq_true rfl⟩ (lw_hc hk hn (by decide) (by decide)) ?_
  rintro _ τ ⟨rfl, hX, hF⟩
  have h3 : iv_M A τ := h.2.2.2.L hX hF.L
  refine ev_aload_n dL_law_1103 rfl rfl ?_
  refine ev_aload_n dL_law_1104 rfl rfl ?_
  refine ev_iload_n dL_law_1105 rfl rfl ?_
  refine ev_iconst (v := nI 1) dL_law_1106 (by decide) ?_
  refine ev_iadd (v := nI (i + 1)) dL_law_1107 (nI_add _ _) ?_
  refine ev_sld (j := i + 1) (v := x1) dL_law_1108 (am_ixn (by omega) hL) e1 ?_
  refine ev_aload_n dL_law_1109 rfl rfl ?_
  refine ev_iload_n dL_law_1110 rfl rfl ?_
  refine ev_iconst (v := nI 2) dL_law_1111 (by decide) ?_
  refine ev_iadd (v := nI (i + 2)) dL_law_1112 (nI_add _ _) ?_
  refine ev_sld (j := i + 2) (v := x2) dL_law_1113 (am_ixn (by omega) hL) e2 ?_
  refine ev_callV (as := [.int x1, .int x2]) (st := [.int (sp_judge A x1 x2)]) dL_law_1114 mfX7_judge lk_L_127 (ly_k h3.ly 65 rfl) (by decide) rfl (c_X7_judge G 0 A τ h.1 h3 x1 x2) rfl rfl (Nat.le_of_ble_eq_true rfl) ⟨Nat.le_of_ble_eq_true rfl, Nat.le_of_ble_eq_true rfl⟩ (lw_hc2 (a := 0) (b := 0) hk hn (by decide) (by decide)) ?_
  rintro _ υ ⟨rfl, hI, f⟩
  refine ev_icmp_eq (tgt := 1592) dL_law_1117 (by decide) (fun _ => ?_) (fun q => absurd rfl q)
  exact next A υ _ _ (lw_st h (wz_rf h.1) hX hI f.w) (by omega) (by omega)

set_option maxHeartbeats 400000 in
set_option maxRecDepth 100000 in
theorem law_27 {G : am_G} {nm : String} {A : am_S} {σ : am_M} {i k n : Nat} (h : lw_I A σ) (hi : i + 7 ≤ G.2.2.2.2.2.1) (hL : G.2.2.2.2.2.1 < 2 ^ 31) (hk : k + 3 ≤ 659291) (hn : n + 196 ≤ 7124374) (next : lw_N G nm i k n) : lw_E G nm 1122 (lw_V i) σ k n := by
  generalize e1 : G.2.2.2.2.2.2 (i + 1) = x1
  show am_Ev G (mL nm) lw_M 659291 7124374 lw_T 1122 [(0, .ref 0), (1, .ref 32), (2, .ref 65), (3, .int (nI i))] [] σ k n
  refine ev_aload_n dL_law_1122 rfl rfl ?_
  refine ev_aload_n dL_law_1123 rfl rfl ?_
  refine ev_iload_n dL_law_1124 rfl rfl ?_
  refine ev_iconst (v := nI 1) dL_law_1125 (by decide) ?_
  refine ev_iadd (v := nI (i + 1)) dL_law_1126 (nI_add _ _) ?_
  refine ev_sld (j := i + 1) (v := x1) dL_law_1127 (am_ixn (by omega) hL) e1 ?_
  refine ev_callV (as := [.int x1]) (st := []) dL_law_1128 mfX6_whose lk_L_128 (ly_k h.2.2.1.ly 32 rfl) (by decide) rfl (c_X6_whose G 0 A σ h.1 h.2.2.1 x1) rfl rfl (Nat.le_of_ble_eq_true rfl) ⟨Nat.le_of_ble_eq_true rfl, Nat.le_of_ble_eq_true rfl⟩ (lw_hc hk hn (by decide) (by decide)) ?_
  rintro _ τ ⟨rfl, hX, hF⟩
  have h3 : iv_M A τ := h.2.2.2.L hX hF.L
  refine ev_aload_n dL_law_1131 rfl rfl ?_
  refine ev_aload_n dL_law_1132 rfl rfl ?_
  refine ev_iload_n dL_law_1133 rfl rfl ?_
  refine ev_iconst (v := nI 1) dL_law_1134 (by decide) ?_
  refine ev_iadd (v := nI (i + 1)) dL_law_1135 (nI_add _ _) ?_
  refine ev_sld (j := i + 1) (v := x1) dL_law_1136 (am_ixn (by omega) hL) e1 ?_
  refine ev_callV (as := [.int x1]) (st := [.int (sp_whose A x1)]) dL_law_1137 mfX7_whose lk_L_131 (ly_k h3.ly 65 rfl) (by decide) rfl (c_X7_whose G 0 A τ h.1 h3 x1) rfl rfl (Nat.le_of_ble_eq_true rfl) ⟨Nat.le_of_ble_eq_true rfl, Nat.le_of_ble_eq_true rfl⟩ (lw_hc2 (a := 0) (b := 0) hk hn (by decide) (by decide)) ?_
  rintro _ υ ⟨rfl, hI, f⟩
  refine ev_icmp_eq (tgt := 1592) dL_law_1140 (by decide) (fun _ => ?_) (fun q => absurd rfl q)
  exact next A υ _ _ (lw_st h (wz_rf h.1) hX hI f.w) (by omega) (by omega)

set_option maxHeartbeats 400000 in
set_option maxRecDepth 100000 in
theorem law_28 {G : am_G} {nm : String} {A : am_S} {σ : am_M} {i k n : Nat} (h : lw_I A σ) (hi : i + 7 ≤ G.2.2.2.2.2.1) (hL : G.2.2.2.2.2.1 < 2 ^ 31) (hk : k + 3 ≤ 659291) (hn : n + 196 ≤ 7124374) (next : lw_N G nm i k n) : lw_E G nm 1145 (lw_V i) σ k n := by
  generalize e1 : G.2.2.2.2.2.2 (i + 1) = x1
  generalize e2 : G.2.2.2.2.2.2 (i + 2) = x2
  generalize e3 : G.2.2.2.2.2.2 (i + 3) = x3
  show am_Ev G (mL nm) lw_M 659291 7124374 lw_T 1145 [(0, .ref 0), (1, .ref 32), (2, .ref 65), (3, .int (nI i))] [] σ k n
  refine ev_aload_n dL_law_1145 rfl rfl ?_
  refine ev_aload_n dL_law_1146 rfl rfl ?_
  refine ev_iload_n dL_law_1147 rfl rfl ?_
  refine ev_iconst (v := nI 1) dL_law_1148 (by decide) ?_
  refine ev_iadd (v := nI (i + 1)) dL_law_1149 (nI_add _ _) ?_
  refine ev_sld (j := i + 1) (v := x1) dL_law_1150 (am_ixn (by omega) hL) e1 ?_
  refine ev_aload_n dL_law_1151 rfl rfl ?_
  refine ev_iload_n dL_law_1152 rfl rfl ?_
  refine ev_iconst (v := nI 2) dL_law_1153 (by decide) ?_
  refine ev_iadd (v := nI (i + 2)) dL_law_1154 (nI_add _ _) ?_
  refine ev_sld (j := i + 2) (v := x2) dL_law_1155 (am_ixn (by omega) hL) e2 ?_
  refine ev_aload_n dL_law_1156 rfl rfl ?_
  refine ev_iload_n dL_law_1157 rfl rfl ?_
  refine ev_iconst (v := nI 3) dL_law_1158 (by decide) ?_
  refine ev_iadd (v := nI (i + 3)) dL_law_1159 (nI_add _ _) ?_
  refine ev_sld (j := i + 3) (v := x3) dL_law_1160 (am_ixn (by omega) hL) e3 ?_
  refine ev_callV (as := [.int x1, .int x2, .int x3]) (st := []) dL_law_1161 mfX6_depth lk_L_132 (ly_k h.2.2.1.ly 32 rfl) (by decide) rfl (c_X6_depth G 0 A σ h.1 h.2.2.1 x1 x2 x3) rfl rfl (Nat.le_of_ble_eq_true rfl) ⟨Nat.le_of_ble_eq_true rfl, Nat.le_of_ble_eq_true rfl⟩ (lw_hc hk hn (by decide) (by decide)) ?_
  rintro _ τ ⟨rfl, hX, hF⟩
  have h3 : iv_M A τ := h.2.2.2.L hX hF.L
  refine ev_aload_n dL_law_1164 rfl rfl ?_
  refine ev_aload_n dL_law_1165 rfl rfl ?_
  refine ev_iload_n dL_law_1166 rfl rfl ?_
  refine ev_iconst (v := nI 1) dL_law_1167 (by decide) ?_
  refine ev_iadd (v := nI (i + 1)) dL_law_1168 (nI_add _ _) ?_
  refine ev_sld (j := i + 1) (v := x1) dL_law_1169 (am_ixn (by omega) hL) e1 ?_
  refine ev_aload_n dL_law_1170 rfl rfl ?_
  refine ev_iload_n dL_law_1171 rfl rfl ?_
  refine ev_iconst (v := nI 2) dL_law_1172 (by decide) ?_
  refine ev_iadd (v := nI (i + 2)) dL_law_1173 (nI_add _ _) ?_
  refine ev_sld (j := i + 2) (v := x2) dL_law_1174 (am_ixn (by omega) hL) e2 ?_
  refine ev_aload_n dL_law_1175 rfl rfl ?_
  refine ev_iload_n dL_law_1176 rfl rfl ?_
  refine ev_iconst (v := nI 3) dL_law_1177 (by decide) ?_
  refine ev_iadd (v := nI (i + 3)) dL_law_1178 (nI_add _ _) ?_
  refine ev_sld (j := i + 3) (v := x3) dL_law_1179 (am_ixn (by omega) hL) e3 ?_
  refine ev_callV (as := [.int x1, .int x2, .int x3]) (st := [.int (sp_depth A x1 x2 x3)]) dL_law_1180 mfX7_depth lk_L_135 (ly_k h3.ly 65 rfl) (by decide) rfl (c_X7_depth G 0 A τ h.1 h3 x1 x2 x3) rfl rfl (Nat.le_of_ble_eq_true rfl) ⟨Nat.le_of_ble_eq_true rfl, Nat.le_of_ble_eq_true rfl⟩ (lw_hc2 (a := 0) (b := 0) hk hn (by decide) (by decide)) ?_
  rintro _ υ ⟨rfl, hI, f⟩
  refine ev_icmp_eq (tgt := 1592) dL_law_1183 (by decide) (fun _ => ?_) (fun q => absurd rfl q)
  exact next A υ _ _ (lw_st h (wz_rf h.1) hX hI f.w) (by omega) (by omega)

set_option maxHeartbeats 400000 in
set_option maxRecDepth 100000 in
theorem law_29 {G : am_G} {nm : String} {A : am_S} {σ : am_M} {i k n : Nat} (h : lw_I A σ) (hi : i + 7 ≤ G.2.2.2.2.2.1) (hL : G.2.2.2.2.2.1 < 2 ^ 31) (hk : k + 3 ≤ 659291) (hn : n + 196 ≤ 7124374) (next : lw_N G nm i k n) : lw_E G nm 1188 (lw_V i) σ k n := by
  generalize e1 : G.2.2.2.2.2.2 (i + 1) = x1
  generalize e2 : G.2.2.2.2.2.2 (i + 2) = x2
  show am_Ev G (mL nm) lw_M 659291 7124374 lw_T 1188 [(0, .ref 0), (1, .ref 32), (2, .ref 65), (3, .int (nI i))] [] σ k n
  refine ev_aload_n dL_law_1188 rfl rfl ?_
  refine ev_aload_n dL_law_1189 rfl rfl ?_
  refine ev_iload_n dL_law_1190 rfl rfl ?_
  refine ev_iconst (v := nI 1) dL_law_1191 (by decide) ?_
  refine ev_iadd (v := nI (i + 1)) dL_law_1192 (nI_add _ _) ?_
  refine ev_sld (j := i + 1) (v := x1) dL_law_1193 (am_ixn (by omega) hL) e1 ?_
  refine ev_aload_n dL_law_1194 rfl rfl ?_
  refine ev_iload_n dL_law_1195 rfl rfl ?_
  refine ev_iconst (v := nI 2) dL_law_1196 (by decide) ?_
  refine ev_iadd (v := nI (i + 2)) dL_law_1197 (nI_add _ _) ?_
  refine ev_sld (j := i + 2) (v := x2) dL_law_1198 (am_ixn (by omega) hL) e2 ?_
  refine ev_callV (as := [.int x1, .int x2]) (st := []) dL_law_1199 mfX6_laws lk_L_136 (ly_k h.2.2.1.ly 32 rfl) (by decide) rfl (c_X6_laws G 0 A σ h.1 h.2.2.1 x1 x2) rfl rfl (Nat.le_of_ble_eq_true rfl) ⟨Nat.le_of_ble_eq_true rfl, Nat.le_of_ble_eq_true rfl⟩ (lw_hc hk hn (by decide) (by decide)) ?_
  rintro _ τ ⟨rfl, hX, hF⟩
  have h3 : iv_M A τ := h.2.2.2.L hX hF.L
  refine ev_aload_n dL_law_1202 rfl rfl ?_
  refine ev_aload_n dL_law_1203 rfl rfl ?_
  refine ev_iload_n dL_law_1204 rfl rfl ?_
  refine ev_iconst (v := nI 1) dL_law_1205 (by decide) ?_
  refine ev_iadd (v := nI (i + 1)) dL_law_1206 (nI_add _ _) ?_
  refine ev_sld (j := i + 1) (v := x1) dL_law_1207 (am_ixn (by omega) hL) e1 ?_
  refine ev_aload_n dL_law_1208 rfl rfl ?_
  refine ev_iload_n dL_law_1209 rfl rfl ?_
  refine ev_iconst (v := nI 2) dL_law_1210 (by decide) ?_
  refine ev_iadd (v := nI (i + 2)) dL_law_1211 (nI_add _ _) ?_
  refine ev_sld (j := i + 2) (v := x2) dL_law_1212 (am_ixn (by omega) hL) e2 ?_
  refine ev_callV (as := [.int x1, .int x2]) (st := [.int (sp_laws A x1 x2)]) dL_law_1213 mfX7_laws lk_L_139 (ly_k h3.ly 65 rfl) (by decide) rfl (c_X7_laws G 0 A τ h.1 h3 x1 x2) rfl rfl (Nat.le_of_ble_eq_true rfl) ⟨Nat.le_of_ble_eq_true rfl, Nat.le_of_ble_eq_true rfl⟩ (lw_hc2 (a := 0) (b := 0) hk hn (by decide) (by decide)) ?_
  rintro _ υ ⟨rfl, hI, f⟩
  refine ev_icmp_eq (tgt := 1592) dL_law_1216 (by decide) (fun _ => ?_) (fun q => absurd rfl q)
  exact next A υ _ _ (lw_st h (wz_rf h.1) hX hI f.w) (by omega) (by omega)

set_option maxHeartbeats 400000 in
set_option maxRecDepth 100000 in
theorem law_30 {G : am_G} {nm : String} {A : am_S} {σ : am_M} {i k n : Nat} (h : lw_I A σ) (hi : i + 7 ≤ G.2.2.2.2.2.1) (hL : G.2.2.2.2.2.1 < 2 ^ 31) (hk : k + 3 ≤ 659291) (hn : n + 196 ≤ 7124374) (next : lw_N G nm i k n) : lw_E G nm 1221 (lw_V i) σ k n := by
  generalize e1 : G.2.2.2.2.2.2 (i + 1) = x1
  generalize e2 : G.2.2.2.2.2.2 (i + 2) = x2
  show am_Ev G (mL nm) lw_M 659291 7124374 lw_T 1221 [(0, .ref 0), (1, .ref 32), (2, .ref 65), (3, .int (nI i))] [] σ k n
  refine ev_aload_n dL_law_1221 rfl rfl ?_
  refine ev_aload_n dL_law_1222 rfl rfl ?_
  refine ev_iload_n dL_law_1223 rfl rfl ?_
  refine ev_iconst (v := nI 1) dL_law_1224 (by decide) ?_
  refine ev_iadd (v := nI (i + 1)) dL_law_1225 (nI_add _ _) ?_
  refine ev_sld (j := i + 1) (v := x1) dL_law_1226 (am_ixn (by omega) hL) e1 ?_
  refine ev_aload_n dL_law_1227 rfl rfl ?_
  refine ev_iload_n dL_law_1228 rfl rfl ?_
  refine ev_iconst (v := nI 2) dL_law_1229 (by decide) ?_
  refine ev_iadd (v := nI (i + 2)) dL_law_1230 (nI_add _ _) ?_
  refine ev_sld (j := i + 2) (v := x2) dL_law_1231 (am_ixn (by omega) hL) e2 ?_
  refine ev_callV (as := [.int x1, .int x2]) (st := []) dL_law_1232 mfX6_film lk_L_140 (ly_k h.2.2.1.ly 32 rfl) (by decide) rfl (c_X6_film G 0 A σ h.1 h.2.2.1 x1 x2) rfl rfl (Nat.le_of_ble_eq_true rfl) ⟨Nat.le_of_ble_eq_true rfl, Nat.le_of_ble_eq_true rfl⟩ (lw_hc hk hn (by decide) (by decide)) ?_
  rintro _ τ ⟨rfl, hX, hF⟩
  have h3 : iv_M A τ := h.2.2.2.L hX hF.L
  refine ev_aload_n dL_law_1235 rfl rfl ?_
  refine ev_aload_n dL_law_1236 rfl rfl ?_
  refine ev_iload_n dL_law_1237 rfl rfl ?_
  refine ev_iconst (v := nI 1) dL_law_1238 (by decide) ?_
  refine ev_iadd (v := nI (i + 1)) dL_law_1239 (nI_add _ _) ?_
  refine ev_sld (j := i + 1) (v := x1) dL_law_1240 (am_ixn (by omega) hL) e1 ?_
  refine ev_aload_n dL_law_1241 rfl rfl ?_
  refine ev_iload_n dL_law_1242 rfl rfl ?_
  refine ev_iconst (v := nI 2) dL_law_1243 (by decide) ?_
  refine ev_iadd (v := nI (i + 2)) dL_law_1244 (nI_add _ _) ?_
  refine ev_sld (j := i + 2) (v := x2) dL_law_1245 (am_ixn (by omega) hL) e2 ?_
  refine ev_callV (as := [.int x1, .int x2]) (st := [.int (sp_film A x1 x2).1]) dL_law_1246 mfX7_film lk_L_143 (ly_k h3.ly 65 rfl) (by decide) rfl (c_X7_film G 0 A τ h.1 h3 x1 x2) rfl rfl (Nat.le_of_ble_eq_true rfl) ⟨Nat.le_of_ble_eq_true rfl, Nat.le_of_ble_eq_true rfl⟩ (lw_hc2 (a := 0) (b := 0) hk hn (by decide) (by decide)) ?_
  rintro _ υ ⟨rfl, hI, f⟩
  refine ev_icmp_eq (tgt := 1592) dL_law_1249 (by decide) (fun _ => ?_) (fun q => absurd rfl q)
  exact next _ υ _ _ (lw_st h (wz_film h.1) hX hI f.w) (by omega) (by omega)

set_option maxHeartbeats 400000 in
set_option maxRecDepth 100000 in
theorem law_31 {G : am_G} {nm : String} {A : am_S} {σ : am_M} {i k n : Nat} (h : lw_I A σ) (hi : i + 7 ≤ G.2.2.2.2.2.1) (hL : G.2.2.2.2.2.1 < 2 ^ 31) (hk : k + 3 ≤ 659291) (hn : n + 196 ≤ 7124374) (next : lw_N G nm i k n) : lw_E G nm 1254 (lw_V i) σ k n := by
  generalize e1 : G.2.2.2.2.2.2 (i + 1) = x1
  show am_Ev G (mL nm) lw_M 659291 7124374 lw_T 1254 [(0, .ref 0), (1, .ref 32), (2, .ref 65), (3, .int (nI i))] [] σ k n
  refine ev_aload_n dL_law_1254 rfl rfl ?_
  refine ev_aload_n dL_law_1255 rfl rfl ?_
  refine ev_iload_n dL_law_1256 rfl rfl ?_
  refine ev_iconst (v := nI 1) dL_law_1257 (by decide) ?_
  refine ev_iadd (v := nI (i + 1)) dL_law_1258 (nI_add _ _) ?_
  refine ev_sld (j := i + 1) (v := x1) dL_law_1259 (am_ixn (by omega) hL) e1 ?_
  refine ev_callV (as := [.int x1]) (st := []) dL_law_1260 mfX6_drawn lk_L_144 (ly_k h.2.2.1.ly 32 rfl) (by decide) rfl (c_X6_drawn G 0 A σ h.1 h.2.2.1 x1) rfl rfl (Nat.le_of_ble_eq_true rfl) ⟨Nat.le_of_ble_eq_true rfl, Nat.le_of_ble_eq_true rfl⟩ (lw_hc hk hn (by decide) (by decide)) ?_
  rintro _ τ ⟨rfl, hX, hF⟩
  have h3 : iv_M A τ := h.2.2.2.L hX hF
  refine ev_aload_n dL_law_1263 rfl rfl ?_
  refine ev_aload_n dL_law_1264 rfl rfl ?_
  refine ev_iload_n dL_law_1265 rfl rfl ?_
  refine ev_iconst (v := nI 1) dL_law_1266 (by decide) ?_
  refine ev_iadd (v := nI (i + 1)) dL_law_1267 (nI_add _ _) ?_
  refine ev_sld (j := i + 1) (v := x1) dL_law_1268 (am_ixn (by omega) hL) e1 ?_
  refine ev_callV (as := [.int x1]) (st := [.int (sp_drawn A x1)]) dL_law_1269 mfX7_drawn lk_L_147 (ly_k h3.ly 65 rfl) (by decide) rfl (c_X7_drawn G 0 A τ h.1 h3 x1) rfl rfl (Nat.le_of_ble_eq_true rfl) ⟨Nat.le_of_ble_eq_true rfl, Nat.le_of_ble_eq_true rfl⟩ (lw_hc2 (a := 0) (b := 0) hk hn (by decide) (by decide)) ?_
  rintro _ υ ⟨rfl, hI, f⟩
  refine ev_icmp_eq (tgt := 1592) dL_law_1272 (by decide) (fun _ => ?_) (fun q => absurd rfl q)
  exact next A υ _ _ (lw_st h (wz_rf h.1) hX hI f) (by omega) (by omega)

set_option maxHeartbeats 400000 in
set_option maxRecDepth 100000 in
theorem law_32 {G : am_G} {nm : String} {A : am_S} {σ : am_M} {i k n : Nat} (h : lw_I A σ) (hi : i + 7 ≤ G.2.2.2.2.2.1) (hL : G.2.2.2.2.2.1 < 2 ^ 31) (hk : k + 3 ≤ 659291) (hn : n + 196 ≤ 7124374) (next : lw_N G nm i k n) : lw_E G nm 1277 (lw_V i) σ k n := by
  generalize e1 : G.2.2.2.2.2.2 (i + 1) = x1
  generalize e2 : G.2.2.2.2.2.2 (i + 2) = x2
  generalize e3 : G.2.2.2.2.2.2 (i + 3) = x3
  generalize e4 : G.2.2.2.2.2.2 (i + 4) = x4
  show am_Ev G (mL nm) lw_M 659291 7124374 lw_T 1277 [(0, .ref 0), (1, .ref 32), (2, .ref 65), (3, .int (nI i))] [] σ k n
  refine ev_aload_n dL_law_1277 rfl rfl ?_
  refine ev_aload_n dL_law_1278 rfl rfl ?_
  refine ev_iload_n dL_law_1279 rfl rfl ?_
  refine ev_iconst (v := nI 1) dL_law_1280 (by decide) ?_
  refine ev_iadd (v := nI (i + 1)) dL_law_1281 (nI_add _ _) ?_
  refine ev_sld (j := i + 1) (v := x1) dL_law_1282 (am_ixn (by omega) hL) e1 ?_
  refine ev_aload_n dL_law_1283 rfl rfl ?_
  refine ev_iload_n dL_law_1284 rfl rfl ?_
  refine ev_iconst (v := nI 2) dL_law_1285 (by decide) ?_
  refine ev_iadd (v := nI (i + 2)) dL_law_1286 (nI_add _ _) ?_
  refine ev_sld (j := i + 2) (v := x2) dL_law_1287 (am_ixn (by omega) hL) e2 ?_
  refine ev_aload_n dL_law_1288 rfl rfl ?_
  refine ev_iload_n dL_law_1289 rfl rfl ?_
  refine ev_iconst (v := nI 3) dL_law_1290 (by decide) ?_
  refine ev_iadd (v := nI (i + 3)) dL_law_1291 (nI_add _ _) ?_
  refine ev_sld (j := i + 3) (v := x3) dL_law_1292 (am_ixn (by omega) hL) e3 ?_
  refine ev_aload_n dL_law_1293 rfl rfl ?_
  refine ev_iload_n dL_law_1294 rfl rfl ?_
  refine ev_iconst (v := nI 4) dL_law_1295 (by decide) ?_
  refine ev_iadd (v := nI (i + 4)) dL_law_1296 (nI_add _ _) ?_
  refine ev_sld (j := i + 4) (v := x4) dL_law_1297 (am_ixn (by omega) hL) e4 ?_
  refine ev_callV (as := [.int x1, .int x2, .int x3, .int x4]) (st := []) dL_law_1298 mfX6_odds lk_L_148 (ly_k h.2.2.1.ly 32 rfl) (by decide) rfl (c_X6_odds G 0 A σ h.1 h.2.2.1 x1 x2 x3 x4) rfl rfl (Nat.le_of_ble_eq_true rfl) ⟨Nat.le_of_ble_eq_true rfl, Nat.le_of_ble_eq_true rfl⟩ (lw_hc hk hn (by decide) (by decide)) ?_
  rintro _ τ ⟨rfl, hX, hF⟩
  have h3 : iv_M A τ := h.2.2.2.L hX hF
  refine ev_aload_n dL_law_1301 rfl rfl ?_
  refine ev_aload_n dL_law_1302 rfl rfl ?_
  refine ev_iload_n dL_law_1303 rfl rfl ?_
  refine ev_iconst (v := nI 1) dL_law_1304 (by decide) ?_
  refine ev_iadd (v := nI (i + 1)) dL_law_1305 (nI_add _ _) ?_
  refine ev_sld (j := i + 1) (v := x1) dL_law_1306 (am_ixn (by omega) hL) e1 ?_
  refine ev_aload_n dL_law_1307 rfl rfl ?_
  refine ev_iload_n dL_law_1308 rfl rfl ?_
  refine ev_iconst (v := nI 2) dL_law_1309 (by decide) ?_
  refine ev_iadd (v := nI (i + 2)) dL_law_1310 (nI_add _ _) ?_
  refine ev_sld (j := i + 2) (v := x2) dL_law_1311 (am_ixn (by omega) hL) e2 ?_
  refine ev_aload_n dL_law_1312 rfl rfl ?_
  refine ev_iload_n dL_law_1313 rfl rfl ?_
  refine ev_iconst (v := nI 3) dL_law_1314 (by decide) ?_
  refine ev_iadd (v := nI (i + 3)) dL_law_1315 (nI_add _ _) ?_
  refine ev_sld (j := i + 3) (v := x3) dL_law_1316 (am_ixn (by omega) hL) e3 ?_
  refine ev_aload_n dL_law_1317 rfl rfl ?_
  refine ev_iload_n dL_law_1318 rfl rfl ?_
  refine ev_iconst (v := nI 4) dL_law_1319 (by decide) ?_
  refine ev_iadd (v := nI (i + 4)) dL_law_1320 (nI_add _ _) ?_
  refine ev_sld (j := i + 4) (v := x4) dL_law_1321 (am_ixn (by omega) hL) e4 ?_
  refine ev_callV (as := [.int x1, .int x2, .int x3, .int x4]) (st := [.long (sp_odds A x1 x2 x3 x4)]) dL_law_1322 mfX7_odds lk_L_152 (ly_k h3.ly 65 rfl) (by decide) rfl (c_X7_odds G 0 A τ h.1 h3 x1 x2 x3 x4) rfl rfl (Nat.le_of_ble_eq_true rfl) ⟨Nat.le_of_ble_eq_true rfl, Nat.le_of_ble_eq_true rfl⟩ (lw_hc2 (a := 0) (b := 0) hk hn (by decide) (by decide)) ?_
  rintro _ υ ⟨rfl, hI, f⟩
  refine ev_lcmp (v := 0) dL_law_1325 lg_cmpz ?_
  refine ev_if_eq (tgt := 1592) dL_law_1326 (by decide) (fun _ => ?_) (fun q => absurd rfl q)
  exact next A υ _ _ (lw_st h (wz_rf h.1) hX hI f) (by omega) (by omega)

set_option maxHeartbeats 400000 in
set_option maxRecDepth 100000 in
theorem law_33 {G : am_G} {nm : String} {A : am_S} {σ : am_M} {i k n : Nat} (h : lw_I A σ) (hi : i + 7 ≤ G.2.2.2.2.2.1) (hL : G.2.2.2.2.2.1 < 2 ^ 31) (hk : k + 3 ≤ 659291) (hn : n + 196 ≤ 7124374) (next : lw_N G nm i k n) : lw_E G nm 1331 (lw_V i) σ k n := by
  show am_Ev G (mL nm) lw_M 659291 7124374 lw_T 1331 [(0, .ref 0), (1, .ref 32), (2, .ref 65), (3, .int (nI i))] [] σ k n
  refine ev_aload_n dL_law_1331 rfl rfl ?_
  refine ev_callV (as := []) (st := []) dL_law_1332 mfX6_image lk_L_153 (ly_k h.2.2.1.ly 32 rfl) (by decide) rfl (c_X6_image G 0 A σ h.1 h.2.2.1) rfl rfl (Nat.le_of_ble_eq_true rfl) ⟨Nat.le_of_ble_eq_true rfl, Nat.le_of_ble_eq_true rfl⟩ (lw_hc hk hn (by decide) (by decide)) ?_
  rintro _ τ ⟨rfl, hX, hF⟩
  have h3 : iv_M A τ := h.2.2.2.L hX hF.L
  refine ev_aload_n dL_law_1335 rfl rfl ?_
  refine ev_callV (as := []) (st := [.int (sp_image A).1]) dL_law_1336 mfX7_image lk_L_156 (ly_k h3.ly 65 rfl) (by decide) rfl (c_X7_image G 0 A τ h.1 h3) rfl rfl (Nat.le_of_ble_eq_true rfl) ⟨Nat.le_of_ble_eq_true rfl, Nat.le_of_ble_eq_true rfl⟩ (lw_hc2 (a := 0) (b := 0) hk hn (by decide) (by decide)) ?_
  rintro _ υ ⟨rfl, hI, f⟩
  refine ev_icmp_eq (tgt := 1592) dL_law_1339 (by decide) (fun _ => ?_) (fun q => absurd rfl q)
  exact next _ υ _ _ (lw_st h (wz_image h.1) hX hI f.w) (by omega) (by omega)

set_option maxHeartbeats 400000 in
set_option maxRecDepth 100000 in
theorem law_34 {G : am_G} {nm : String} {A : am_S} {σ : am_M} {i k n : Nat} (h : lw_I A σ) (hi : i + 7 ≤ G.2.2.2.2.2.1) (hL : G.2.2.2.2.2.1 < 2 ^ 31) (hk : k + 3 ≤ 659291) (hn : n + 196 ≤ 7124374) (next : lw_N G nm i k n) : lw_E G nm 1344 (lw_V i) σ k n := by
  show am_Ev G (mL nm) lw_M 659291 7124374 lw_T 1344 [(0, .ref 0), (1, .ref 32), (2, .ref 65), (3, .int (nI i))] [] σ k n
  refine ev_aload_n dL_law_1344 rfl rfl ?_
  refine ev_callV (as := []) (st := []) dL_law_1345 mfX6_back lk_L_157 (ly_k h.2.2.1.ly 32 rfl) (by decide) rfl (c_X6_back G 0 A σ h.1 h.2.2.1) rfl rfl (Nat.le_of_ble_eq_true rfl) ⟨Nat.le_of_ble_eq_true rfl, Nat.le_of_ble_eq_true rfl⟩ (lw_hc hk hn (by decide) (by decide)) ?_
  rintro _ τ ⟨rfl, hX, hF⟩
  have h3 : iv_M A τ := h.2.2.2.L hX hF
  refine ev_aload_n dL_law_1348 rfl rfl ?_
  refine ev_callV (as := []) (st := [.int (sp_back A).1]) dL_law_1349 mfX7_back lk_L_160 (ly_k h3.ly 65 rfl) (by decide) rfl (c_X7_back G 0 A τ h.1 h3) rfl rfl (Nat.le_of_ble_eq_true rfl) ⟨Nat.le_of_ble_eq_true rfl, Nat.le_of_ble_eq_true rfl⟩ (lw_hc2 (a := 0) (b := 0) hk hn (by decide) (by decide)) ?_
  rintro _ υ ⟨rfl, hI, f⟩
  refine ev_icmp_eq (tgt := 1592) dL_law_1352 (by decide) (fun _ => ?_) (fun q => absurd rfl q)
  exact next _ υ _ _ (lw_st h (wz_back h.1) hX hI f.w) (by omega) (by omega)

set_option maxHeartbeats 400000 in
set_option maxRecDepth 100000 in
theorem law_35 {G : am_G} {nm : String} {A : am_S} {σ : am_M} {i k n : Nat} (h : lw_I A σ) (hi : i + 7 ≤ G.2.2.2.2.2.1) (hL : G.2.2.2.2.2.1 < 2 ^ 31) (hk : k + 3 ≤ 659291) (hn : n + 196 ≤ 7124374) (next : lw_N G nm i k n) : lw_E G nm 1357 (lw_V i) σ k n := by
  generalize e1 : G.2.2.2.2.2.2 (i + 1) = x1
  generalize e2 : G.2.2.2.2.2.2 (i + 2) = x2
  generalize e3 : G.2.2.2.2.2.2 (i + 3) = x3
  show am_Ev G (mL nm) lw_M 659291 7124374 lw_T 1357 [(0, .ref 0), (1, .ref 32), (2, .ref 65), (3, .int (nI i))] [] σ k n
  refine ev_aload_n dL_law_1357 rfl rfl ?_
  refine ev_aload_n dL_law_1358 rfl rfl ?_
  refine ev_iload_n dL_law_1359 rfl rfl ?_
  refine ev_iconst (v := nI 1) dL_law_1360 (by decide) ?_
  refine ev_iadd (v := nI (i + 1)) dL_law_1361 (nI_add _ _) ?_
  refine ev_sld (j := i + 1) (v := x1) dL_law_1362 (am_ixn (by omega) hL) e1 ?_
  refine ev_aload_n dL_law_1363 rfl rfl ?_
  refine ev_iload_n dL_law_1364 rfl rfl ?_
  refine ev_iconst (v := nI 2) dL_law_1365 (by decide) ?_
  refine ev_iadd (v := nI (i + 2)) dL_law_1366 (nI_add _ _) ?_
  refine ev_sld (j := i + 2) (v := x2) dL_law_1367 (am_ixn (by omega) hL) e2 ?_
  refine ev_aload_n dL_law_1368 rfl rfl ?_
  refine ev_iload_n dL_law_1369 rfl rfl ?_
  refine ev_iconst (v := nI 3) dL_law_1370 (by decide) ?_
  refine ev_iadd (v := nI (i + 3)) dL_law_1371 (nI_add _ _) ?_
  refine ev_sld (j := i + 3) (v := x3) dL_law_1372 (am_ixn (by omega) hL) e3 ?_
  refine ev_callV (as := [.int x1, .int x2, .int x3]) (st := []) dL_law_1373 mfX6_sheet lk_L_161 (ly_k h.2.2.1.ly 32 rfl) (by decide) rfl (c_X6_sheet G 0 A σ h.1 h.2.2.1 x1 x2 x3) rfl rfl (Nat.le_of_ble_eq_true rfl) ⟨Nat.le_of_ble_eq_true rfl, Nat.le_of_ble_eq_true rfl⟩ (lw_hc hk hn (by decide) (by decide)) ?_
  rintro _ τ ⟨rfl, hX, hF⟩
  have h3 : iv_M A τ := h.2.2.2.L hX hF.L
  refine ev_aload_n dL_law_1376 rfl rfl ?_
  refine ev_aload_n dL_law_1377 rfl rfl ?_
  refine ev_iload_n dL_law_1378 rfl rfl ?_
  refine ev_iconst (v := nI 1) dL_law_1379 (by decide) ?_
  refine ev_iadd (v := nI (i + 1)) dL_law_1380 (nI_add _ _) ?_
  refine ev_sld (j := i + 1) (v := x1) dL_law_1381 (am_ixn (by omega) hL) e1 ?_
  refine ev_aload_n dL_law_1382 rfl rfl ?_
  refine ev_iload_n dL_law_1383 rfl rfl ?_
  refine ev_iconst (v := nI 2) dL_law_1384 (by decide) ?_
  refine ev_iadd (v := nI (i + 2)) dL_law_1385 (nI_add _ _) ?_
  refine ev_sld (j := i + 2) (v := x2) dL_law_1386 (am_ixn (by omega) hL) e2 ?_
  refine ev_aload_n dL_law_1387 rfl rfl ?_
  refine ev_iload_n dL_law_1388 rfl rfl ?_
  refine ev_iconst (v := nI 3) dL_law_1389 (by decide) ?_
  refine ev_iadd (v := nI (i + 3)) dL_law_1390 (nI_add _ _) ?_
  refine ev_sld (j := i + 3) (v := x3) dL_law_1391 (am_ixn (by omega) hL) e3 ?_
  refine ev_callV (as := [.int x1, .int x2, .int x3]) (st := [.int (sp_sheet A x1 x2 x3).1]) dL_law_1392 mfX7_sheet lk_L_164 (ly_k h3.ly 65 rfl) (by decide) rfl (c_X7_sheet G 0 A τ h.1 h3 x1 x2 x3) rfl rfl (Nat.le_of_ble_eq_true rfl) ⟨Nat.le_of_ble_eq_true rfl, Nat.le_of_ble_eq_true rfl⟩ (lw_hc2 (a := 0) (b := 0) hk hn (by decide) (by decide)) ?_
  rintro _ υ ⟨rfl, hI, f⟩
  refine ev_icmp_eq (tgt := 1592) dL_law_1395 (by decide) (fun _ => ?_) (fun q => absurd rfl q)
  exact next _ υ _ _ (lw_st h (wz_sheet h.1) hX hI f.w) (by omega) (by omega)

set_option maxHeartbeats 400000 in
set_option maxRecDepth 100000 in
theorem law_36 {G : am_G} {nm : String} {A : am_S} {σ : am_M} {i k n : Nat} (h : lw_I A σ) (hi : i + 7 ≤ G.2.2.2.2.2.1) (hL : G.2.2.2.2.2.1 < 2 ^ 31) (hk : k + 3 ≤ 659291) (hn : n + 196 ≤ 7124374) (next : lw_N G nm i k n) : lw_E G nm 1400 (lw_V i) σ k n := by
  generalize e1 : G.2.2.2.2.2.2 (i + 1) = x1
  generalize e2 : G.2.2.2.2.2.2 (i + 2) = x2
  generalize e3 : G.2.2.2.2.2.2 (i + 3) = x3
  show am_Ev G (mL nm) lw_M 659291 7124374 lw_T 1400 [(0, .ref 0), (1, .ref 32), (2, .ref 65), (3, .int (nI i))] [] σ k n
  refine ev_aload_n dL_law_1400 rfl rfl ?_
  refine ev_aload_n dL_law_1401 rfl rfl ?_
  refine ev_iload_n dL_law_1402 rfl rfl ?_
  refine ev_iconst (v := nI 1) dL_law_1403 (by decide) ?_
  refine ev_iadd (v := nI (i + 1)) dL_law_1404 (nI_add _ _) ?_
  refine ev_sld (j := i + 1) (v := x1) dL_law_1405 (am_ixn (by omega) hL) e1 ?_
  refine ev_aload_n dL_law_1406 rfl rfl ?_
  refine ev_iload_n dL_law_1407 rfl rfl ?_
  refine ev_iconst (v := nI 2) dL_law_1408 (by decide) ?_
  refine ev_iadd (v := nI (i + 2)) dL_law_1409 (nI_add _ _) ?_
  refine ev_sld (j := i + 2) (v := x2) dL_law_1410 (am_ixn (by omega) hL) e2 ?_
  refine ev_aload_n dL_law_1411 rfl rfl ?_
  refine ev_iload_n dL_law_1412 rfl rfl ?_
  refine ev_iconst (v := nI 3) dL_law_1413 (by decide) ?_
  refine ev_iadd (v := nI (i + 3)) dL_law_1414 (nI_add _ _) ?_
  refine ev_sld (j := i + 3) (v := x3) dL_law_1415 (am_ixn (by omega) hL) e3 ?_
  refine ev_callV (as := [.int x1, .int x2, .int x3]) (st := []) dL_law_1416 mfX6_cell lk_L_165 (ly_k h.2.2.1.ly 32 rfl) (by decide) rfl (c_X6_cell G 0 A σ h.1 h.2.2.1 x1 x2 x3) rfl rfl (Nat.le_of_ble_eq_true rfl) ⟨Nat.le_of_ble_eq_true rfl, Nat.le_of_ble_eq_true rfl⟩ (lw_hc hk hn (by decide) (by decide)) ?_
  rintro _ τ ⟨rfl, hX, hF⟩
  have h3 : iv_M A τ := h.2.2.2.L hX hF.L
  refine ev_aload_n dL_law_1419 rfl rfl ?_
  refine ev_aload_n dL_law_1420 rfl rfl ?_
  refine ev_iload_n dL_law_1421 rfl rfl ?_
  refine ev_iconst (v := nI 1) dL_law_1422 (by decide) ?_
  refine ev_iadd (v := nI (i + 1)) dL_law_1423 (nI_add _ _) ?_
  refine ev_sld (j := i + 1) (v := x1) dL_law_1424 (am_ixn (by omega) hL) e1 ?_
  refine ev_aload_n dL_law_1425 rfl rfl ?_
  refine ev_iload_n dL_law_1426 rfl rfl ?_
  refine ev_iconst (v := nI 2) dL_law_1427 (by decide) ?_
  refine ev_iadd (v := nI (i + 2)) dL_law_1428 (nI_add _ _) ?_
  refine ev_sld (j := i + 2) (v := x2) dL_law_1429 (am_ixn (by omega) hL) e2 ?_
  refine ev_aload_n dL_law_1430 rfl rfl ?_
  refine ev_iload_n dL_law_1431 rfl rfl ?_
  refine ev_iconst (v := nI 3) dL_law_1432 (by decide) ?_
  refine ev_iadd (v := nI (i + 3)) dL_law_1433 (nI_add _ _) ?_
  refine ev_sld (j := i + 3) (v := x3) dL_law_1434 (am_ixn (by omega) hL) e3 ?_
  refine ev_callV (as := [.int x1, .int x2, .int x3]) (st := [.int (sp_cell A x1 x2 x3).1]) dL_law_1435 mfX7_cell lk_L_168 (ly_k h3.ly 65 rfl) (by decide) rfl (c_X7_cell G 0 A τ h.1 h3 x1 x2 x3) rfl rfl (Nat.le_of_ble_eq_true rfl) ⟨Nat.le_of_ble_eq_true rfl, Nat.le_of_ble_eq_true rfl⟩ (lw_hc2 (a := 0) (b := 0) hk hn (by decide) (by decide)) ?_
  rintro _ υ ⟨rfl, hI, f⟩
  refine ev_icmp_eq (tgt := 1592) dL_law_1438 (by decide) (fun _ => ?_) (fun q => absurd rfl q)
  exact next _ υ _ _ (lw_st h (wz_cell h.1) hX hI f.w) (by omega) (by omega)

set_option maxHeartbeats 400000 in
set_option maxRecDepth 100000 in
theorem law_37 {G : am_G} {nm : String} {A : am_S} {σ : am_M} {i k n : Nat} (h : lw_I A σ) (hi : i + 7 ≤ G.2.2.2.2.2.1) (hL : G.2.2.2.2.2.1 < 2 ^ 31) (hk : k + 3 ≤ 659291) (hn : n + 196 ≤ 7124374) (next : lw_N G nm i k n) : lw_E G nm 1443 (lw_V i) σ k n := by
  generalize e1 : G.2.2.2.2.2.2 (i + 1) = x1
  generalize e2 : G.2.2.2.2.2.2 (i + 2) = x2
  generalize e3 : G.2.2.2.2.2.2 (i + 3) = x3
  generalize e4 : G.2.2.2.2.2.2 (i + 4) = x4
  generalize e5 : G.2.2.2.2.2.2 (i + 5) = x5
  show am_Ev G (mL nm) lw_M 659291 7124374 lw_T 1443 [(0, .ref 0), (1, .ref 32), (2, .ref 65), (3, .int (nI i))] [] σ k n
  refine ev_aload_n dL_law_1443 rfl rfl ?_
  refine ev_aload_n dL_law_1444 rfl rfl ?_
  refine ev_iload_n dL_law_1445 rfl rfl ?_
  refine ev_iconst (v := nI 1) dL_law_1446 (by decide) ?_
  refine ev_iadd (v := nI (i + 1)) dL_law_1447 (nI_add _ _) ?_
  refine ev_sld (j := i + 1) (v := x1) dL_law_1448 (am_ixn (by omega) hL) e1 ?_
  refine ev_aload_n dL_law_1449 rfl rfl ?_
  refine ev_iload_n dL_law_1450 rfl rfl ?_
  refine ev_iconst (v := nI 2) dL_law_1451 (by decide) ?_
  refine ev_iadd (v := nI (i + 2)) dL_law_1452 (nI_add _ _) ?_
  refine ev_sld (j := i + 2) (v := x2) dL_law_1453 (am_ixn (by omega) hL) e2 ?_
  refine ev_aload_n dL_law_1454 rfl rfl ?_
  refine ev_iload_n dL_law_1455 rfl rfl ?_
  refine ev_iconst (v := nI 3) dL_law_1456 (by decide) ?_
  refine ev_iadd (v := nI (i + 3)) dL_law_1457 (nI_add _ _) ?_
  refine ev_sld (j := i + 3) (v := x3) dL_law_1458 (am_ixn (by omega) hL) e3 ?_
  refine ev_aload_n dL_law_1459 rfl rfl ?_
  refine ev_iload_n dL_law_1460 rfl rfl ?_
  refine ev_iconst (v := nI 4) dL_law_1461 (by decide) ?_
  refine ev_iadd (v := nI (i + 4)) dL_law_1462 (nI_add _ _) ?_
  refine ev_sld (j := i + 4) (v := x4) dL_law_1463 (am_ixn (by omega) hL) e4 ?_
  refine ev_aload_n dL_law_1464 rfl rfl ?_
  refine ev_iload_n dL_law_1465 rfl rfl ?_
  refine ev_iconst (v := nI 5) dL_law_1466 (by decide) ?_
  refine ev_iadd (v := nI (i + 5)) dL_law_1467 (nI_add _ _) ?_
  refine ev_sld (j := i + 5) (v := x5) dL_law_1468 (am_ixn (by omega) hL) e5 ?_
  refine ev_callV (as := [.int x1, .int x2, .int x3, .int x4, .int x5]) (st := []) dL_law_1469 mfX6_copy lk_L_169 (ly_k h.2.2.1.ly 32 rfl) (by decide) rfl (c_X6_copy G 0 A σ h.1 h.2.2.1 x1 x2 x3 x4 x5) rfl rfl (Nat.le_of_ble_eq_true rfl) ⟨Nat.le_of_ble_eq_true rfl, Nat.le_of_ble_eq_true rfl⟩ (lw_hc hk hn (by decide) (by decide)) ?_
  rintro _ τ ⟨rfl, hX, hF⟩
  have h3 : iv_M A τ := h.2.2.2.L hX hF.L
  refine ev_aload_n dL_law_1472 rfl rfl ?_
  refine ev_aload_n dL_law_1473 rfl rfl ?_
  refine ev_iload_n dL_law_1474 rfl rfl ?_
  refine ev_iconst (v := nI 1) dL_law_1475 (by decide) ?_
  refine ev_iadd (v := nI (i + 1)) dL_law_1476 (nI_add _ _) ?_
  refine ev_sld (j := i + 1) (v := x1) dL_law_1477 (am_ixn (by omega) hL) e1 ?_
  refine ev_aload_n dL_law_1478 rfl rfl ?_
  refine ev_iload_n dL_law_1479 rfl rfl ?_
  refine ev_iconst (v := nI 2) dL_law_1480 (by decide) ?_
  refine ev_iadd (v := nI (i + 2)) dL_law_1481 (nI_add _ _) ?_
  refine ev_sld (j := i + 2) (v := x2) dL_law_1482 (am_ixn (by omega) hL) e2 ?_
  refine ev_aload_n dL_law_1483 rfl rfl ?_
  refine ev_iload_n dL_law_1484 rfl rfl ?_
  refine ev_iconst (v := nI 3) dL_law_1485 (by decide) ?_
  refine ev_iadd (v := nI (i + 3)) dL_law_1486 (nI_add _ _) ?_
  refine ev_sld (j := i + 3) (v := x3) dL_law_1487 (am_ixn (by omega) hL) e3 ?_
  refine ev_aload_n dL_law_1488 rfl rfl ?_
  refine ev_iload_n dL_law_1489 rfl rfl ?_
  refine ev_iconst (v := nI 4) dL_law_1490 (by decide) ?_
  refine ev_iadd (v := nI (i + 4)) dL_law_1491 (nI_add _ _) ?_
  refine ev_sld (j := i + 4) (v := x4) dL_law_1492 (am_ixn (by omega) hL) e4 ?_
  refine ev_aload_n dL_law_1493 rfl rfl ?_
  refine ev_iload_n dL_law_1494 rfl rfl ?_
  refine ev_iconst (v := nI 5) dL_law_1495 (by decide) ?_
  refine ev_iadd (v := nI (i + 5)) dL_law_1496 (nI_add _ _) ?_
  refine ev_sld (j := i + 5) (v := x5) dL_law_1497 (am_ixn (by omega) hL) e5 ?_
  refine ev_callV (as := [.int x1, .int x2, .int x3, .int x4, .int x5]) (st := [.int (sp_copy A x1 x2 x3 x4 x5).1]) dL_law_1498 mfX7_copy lk_L_172 (ly_k h3.ly 65 rfl) (by decide) rfl (c_X7_copy G 0 A τ h.1 h3 x1 x2 x3 x4 x5) rfl rfl (Nat.le_of_ble_eq_true rfl) ⟨Nat.le_of_ble_eq_true rfl, Nat.le_of_ble_eq_true rfl⟩ (lw_hc2 (a := 0) (b := 0) hk hn (by decide) (by decide)) ?_
  rintro _ υ ⟨rfl, hI, f⟩
  refine ev_icmp_eq (tgt := 1592) dL_law_1501 (by decide) (fun _ => ?_) (fun q => absurd rfl q)
  exact next _ υ _ _ (lw_st h (wz_copy h.1) hX hI f.w) (by omega) (by omega)

set_option maxHeartbeats 400000 in
set_option maxRecDepth 100000 in
theorem law_38 {G : am_G} {nm : String} {A : am_S} {σ : am_M} {i k n : Nat} (h : lw_I A σ) (hi : i + 7 ≤ G.2.2.2.2.2.1) (hL : G.2.2.2.2.2.1 < 2 ^ 31) (hk : k + 3 ≤ 659291) (hn : n + 196 ≤ 7124374) (next : lw_N G nm i k n) : lw_E G nm 1506 (lw_V i) σ k n := by
  generalize e1 : G.2.2.2.2.2.2 (i + 1) = x1
  generalize e2 : G.2.2.2.2.2.2 (i + 2) = x2
  generalize e3 : G.2.2.2.2.2.2 (i + 3) = x3
  generalize e4 : G.2.2.2.2.2.2 (i + 4) = x4
  show am_Ev G (mL nm) lw_M 659291 7124374 lw_T 1506 [(0, .ref 0), (1, .ref 32), (2, .ref 65), (3, .int (nI i))] [] σ k n
  refine ev_aload_n dL_law_1506 rfl rfl ?_
  refine ev_aload_n dL_law_1507 rfl rfl ?_
  refine ev_iload_n dL_law_1508 rfl rfl ?_
  refine ev_iconst (v := nI 1) dL_law_1509 (by decide) ?_
  refine ev_iadd (v := nI (i + 1)) dL_law_1510 (nI_add _ _) ?_
  refine ev_sld (j := i + 1) (v := x1) dL_law_1511 (am_ixn (by omega) hL) e1 ?_
  refine ev_aload_n dL_law_1512 rfl rfl ?_
  refine ev_iload_n dL_law_1513 rfl rfl ?_
  refine ev_iconst (v := nI 2) dL_law_1514 (by decide) ?_
  refine ev_iadd (v := nI (i + 2)) dL_law_1515 (nI_add _ _) ?_
  refine ev_sld (j := i + 2) (v := x2) dL_law_1516 (am_ixn (by omega) hL) e2 ?_
  refine ev_aload_n dL_law_1517 rfl rfl ?_
  refine ev_iload_n dL_law_1518 rfl rfl ?_
  refine ev_iconst (v := nI 3) dL_law_1519 (by decide) ?_
  refine ev_iadd (v := nI (i + 3)) dL_law_1520 (nI_add _ _) ?_
  refine ev_sld (j := i + 3) (v := x3) dL_law_1521 (am_ixn (by omega) hL) e3 ?_
  refine ev_aload_n dL_law_1522 rfl rfl ?_
  refine ev_iload_n dL_law_1523 rfl rfl ?_
  refine ev_iconst (v := nI 4) dL_law_1524 (by decide) ?_
  refine ev_iadd (v := nI (i + 4)) dL_law_1525 (nI_add _ _) ?_
  refine ev_sld (j := i + 4) (v := x4) dL_law_1526 (am_ixn (by omega) hL) e4 ?_
  refine ev_callV (as := [.int x1, .int x2, .int x3, .int x4]) (st := []) dL_law_1527 mfX6_depthsBy lk_L_173 (ly_k h.2.2.1.ly 32 rfl) (by decide) rfl (c_X6_depthsBy G 0 A σ h.1 h.2.2.1 x1 x2 x3 x4) rfl rfl (Nat.le_of_ble_eq_true rfl) ⟨Nat.le_of_ble_eq_true rfl, Nat.le_of_ble_eq_true rfl⟩ (lw_hc hk hn (by decide) (by decide)) ?_
  rintro _ τ ⟨rfl, hX, hF⟩
  have h3 : iv_M A τ := h.2.2.2.L hX hF.L
  refine ev_aload_n dL_law_1530 rfl rfl ?_
  refine ev_aload_n dL_law_1531 rfl rfl ?_
  refine ev_iload_n dL_law_1532 rfl rfl ?_
  refine ev_iconst (v := nI 1) dL_law_1533 (by decide) ?_
  refine ev_iadd (v := nI (i + 1)) dL_law_1534 (nI_add _ _) ?_
  refine ev_sld (j := i + 1) (v := x1) dL_law_1535 (am_ixn (by omega) hL) e1 ?_
  refine ev_aload_n dL_law_1536 rfl rfl ?_
  refine ev_iload_n dL_law_1537 rfl rfl ?_
  refine ev_iconst (v := nI 2) dL_law_1538 (by decide) ?_
  refine ev_iadd (v := nI (i + 2)) dL_law_1539 (nI_add _ _) ?_
  refine ev_sld (j := i + 2) (v := x2) dL_law_1540 (am_ixn (by omega) hL) e2 ?_
  refine ev_aload_n dL_law_1541 rfl rfl ?_
  refine ev_iload_n dL_law_1542 rfl rfl ?_
  refine ev_iconst (v := nI 3) dL_law_1543 (by decide) ?_
  refine ev_iadd (v := nI (i + 3)) dL_law_1544 (nI_add _ _) ?_
  refine ev_sld (j := i + 3) (v := x3) dL_law_1545 (am_ixn (by omega) hL) e3 ?_
  refine ev_aload_n dL_law_1546 rfl rfl ?_
  refine ev_iload_n dL_law_1547 rfl rfl ?_
  refine ev_iconst (v := nI 4) dL_law_1548 (by decide) ?_
  refine ev_iadd (v := nI (i + 4)) dL_law_1549 (nI_add _ _) ?_
  refine ev_sld (j := i + 4) (v := x4) dL_law_1550 (am_ixn (by omega) hL) e4 ?_
  refine ev_callV (as := [.int x1, .int x2, .int x3, .int x4]) (st := [.int (sp_depthsBy A x1 x2 x3 x4).1]) dL_law_1551 mfX7_depthsBy lk_L_177 (ly_k h3.ly 65 rfl) (by decide) rfl (c_X7_depthsBy G 0 A τ h.1 h3 x1 x2 x3 x4) rfl rfl (Nat.le_of_ble_eq_true rfl) ⟨Nat.le_of_ble_eq_true rfl, Nat.le_of_ble_eq_true rfl⟩ (lw_hc2 (a := 0) (b := 0) hk hn (by decide) (by decide)) ?_
  rintro _ υ ⟨rfl, hI, f⟩
  refine ev_icmp_eq (tgt := 1592) dL_law_1554 (by decide) (fun _ => ?_) (fun q => absurd rfl q)
  exact next _ υ _ _ (lw_st h (wz_depthsBy h.1) hX hI f.w) (by omega) (by omega)

set_option maxHeartbeats 400000 in
set_option maxRecDepth 100000 in
theorem law_39 {G : am_G} {nm : String} {A : am_S} {σ : am_M} {i k n : Nat} (h : lw_I A σ) (hi : i + 7 ≤ G.2.2.2.2.2.1) (hL : G.2.2.2.2.2.1 < 2 ^ 31) (hk : k + 3 ≤ 659291) (hn : n + 196 ≤ 7124374) (next : lw_N G nm i k n) : lw_E G nm 1559 (lw_V i) σ k n := by
  generalize e1 : G.2.2.2.2.2.2 (i + 1) = x1
  generalize e2 : G.2.2.2.2.2.2 (i + 2) = x2
  show am_Ev G (mL nm) lw_M 659291 7124374 lw_T 1559 [(0, .ref 0), (1, .ref 32), (2, .ref 65), (3, .int (nI i))] [] σ k n
  refine ev_aload_n dL_law_1559 rfl rfl ?_
  refine ev_aload_n dL_law_1560 rfl rfl ?_
  refine ev_iload_n dL_law_1561 rfl rfl ?_
  refine ev_iconst (v := nI 1) dL_law_1562 (by decide) ?_
  refine ev_iadd (v := nI (i + 1)) dL_law_1563 (nI_add _ _) ?_
  refine ev_sld (j := i + 1) (v := x1) dL_law_1564 (am_ixn (by omega) hL) e1 ?_
  refine ev_aload_n dL_law_1565 rfl rfl ?_
  refine ev_iload_n dL_law_1566 rfl rfl ?_
  refine ev_iconst (v := nI 2) dL_law_1567 (by decide) ?_
  refine ev_iadd (v := nI (i + 2)) dL_law_1568 (nI_add _ _) ?_
  refine ev_sld (j := i + 2) (v := x2) dL_law_1569 (am_ixn (by omega) hL) e2 ?_
  refine ev_callV (as := [.int x1, .int x2]) (st := []) dL_law_1570 mfX6_taken lk_L_178 (ly_k h.2.2.1.ly 32 rfl) (by decide) rfl (c_X6_taken G 0 A σ h.1 h.2.2.1 x1 x2) rfl rfl (Nat.le_of_ble_eq_true rfl) ⟨Nat.le_of_ble_eq_true rfl, Nat.le_of_ble_eq_true rfl⟩ (lw_hc hk hn (by decide) (by decide)) ?_
  rintro _ _ ⟨rfl, rfl⟩
  have h3 : iv_M A σ := h.2.2.2
  refine ev_aload_n dL_law_1573 rfl rfl ?_
  refine ev_aload_n dL_law_1574 rfl rfl ?_
  refine ev_iload_n dL_law_1575 rfl rfl ?_
  refine ev_iconst (v := nI 1) dL_law_1576 (by decide) ?_
  refine ev_iadd (v := nI (i + 1)) dL_law_1577 (nI_add _ _) ?_
  refine ev_sld (j := i + 1) (v := x1) dL_law_1578 (am_ixn (by omega) hL) e1 ?_
  refine ev_aload_n dL_law_1579 rfl rfl ?_
  refine ev_iload_n dL_law_1580 rfl rfl ?_
  refine ev_iconst (v := nI 2) dL_law_1581 (by decide) ?_
  refine ev_iadd (v := nI (i + 2)) dL_law_1582 (nI_add _ _) ?_
  refine ev_sld (j := i + 2) (v := x2) dL_law_1583 (am_ixn (by omega) hL) e2 ?_
  refine ev_callV (as := [.int x1, .int x2]) (st := [.int (sp_taken A x1 x2)]) dL_law_1584 mfX7_taken lk_L_181 (ly_k h3.ly 65 rfl) (by decide) rfl (c_X7_taken G 0 A σ h.1 h3 x1 x2) rfl rfl (Nat.le_of_ble_eq_true rfl) ⟨Nat.le_of_ble_eq_true rfl, Nat.le_of_ble_eq_true rfl⟩ (lw_hc2 (a := 0) (b := 0) hk hn (by decide) (by decide)) ?_
  rintro _ _ ⟨rfl, rfl⟩
  refine ev_icmp_eq (tgt := 1592) dL_law_1587 (by decide) (fun _ => ?_) (fun q => absurd rfl q)
  exact next A σ _ _ (h) (by omega) (by omega)
