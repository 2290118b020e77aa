/-! the tables' words by their places: facts of each method, each call, each field -/
def am_tbl : List Cond := lw_tbl.filter goodWord
theorem am_wd {i : Nat} {w : Cond} (h : lw_tbl[i]? = some w) (hg : goodWord w = true) : w ∈ am_tbl := List.mem_filter.mpr ⟨List.mem_of_getElem? h, hg⟩
theorem am_good : ∀ w ∈ am_tbl, goodWord w = true := fun w h => (List.mem_filter.mp h).2
theorem am_sub : ∀ w ∈ am_tbl, w ∈ lw_tbl := fun w h => (List.mem_filter.mp h).1
def am_nest : List Cond := [Cond.methodLinkNest RX6 33 yX4_init RX6, Cond.fieldLinkNest RX6 94 RX4 "size" "I" RX6, Cond.fieldLinkNest RX6 105 RX4 "place" "I" RX6, Cond.methodLinkNest RX6 40 yX3_init RX6, Cond.fieldLinkNest RX6 282 RX3 "numbers" "[I" RX6, Cond.fieldLinkNest RX6 275 RX3 "sort" "I" RX6, Cond.fieldLinkNest RX6 324 RX3 "size" "I" RX6, Cond.methodLinkNest RX6 47 yX2_init RX6, Cond.fieldLinkNest RX6 242 RX2 "deep" "[I" RX6, Cond.fieldLinkNest RX6 249 RX2 "seats" "[I" RX6, Cond.fieldLinkNest RX6 252 RX2 "jokers" "[I" RX6, Cond.fieldLinkNest RX6 238 RX2 "isThere" "Z" RX6, Cond.fieldLinkNest RX6 259 RX2 "people" "I" RX6, Cond.fieldLinkNest RX6 261 RX2 "questions" "I" RX6, Cond.fieldLinkNest RX6 264 RX2 "law" "I" RX6, Cond.methodLinkNest RX6 54 yX0_init RX6, Cond.methodLinkNest RX5 29 yX6_bounded RX6, Cond.fieldLinkNest RX6 146 RX1 "kind" "I" RX6, Cond.fieldLinkNest RX6 152 RX1 "more" "I" RX6, Cond.fieldLinkNest RX6 149 RX1 "told" "I" RX6, Cond.fieldLinkNest RX6 143 RX1 "seat" "I" RX6, Cond.methodLinkNest RX1 31 yX6_isTopic RX6, Cond.methodLinkNest RX1 35 yX6_bounded RX6, Cond.methodLinkNest RX0 32 yX6_bounded RX6, Cond.methodLinkNest RX0 40 yX6_name RX6, Cond.methodLinkNest RX0 44 yX6_nameMore RX6, Cond.methodLinkNest RX3 17 yX6_bounded RX6]
theorem am_nestok : ∀ w ∈ am_nest, w ∈ lw_tbl := by
  intro w h
  simp only [am_nest, List.mem_cons, List.not_mem_nil, or_false] at h
  rcases h with rfl | rfl | rfl | rfl | rfl | rfl | rfl | rfl | rfl | rfl | rfl | rfl | rfl | rfl | rfl | rfl | rfl | rfl | rfl | rfl | rfl | rfl | rfl | rfl | rfl | rfl | rfl
  · exact List.mem_of_getElem? (i := 100) (by decide +kernel)
  · exact List.mem_of_getElem? (i := 107) (by decide +kernel)
  · exact List.mem_of_getElem? (i := 109) (by decide +kernel)
  · exact List.mem_of_getElem? (i := 132) (by decide +kernel)
  · exact List.mem_of_getElem? (i := 137) (by decide +kernel)
  · exact List.mem_of_getElem? (i := 139) (by decide +kernel)
  · exact List.mem_of_getElem? (i := 141) (by decide +kernel)
  · exact List.mem_of_getElem? (i := 151) (by decide +kernel)
  · exact List.mem_of_getElem? (i := 156) (by decide +kernel)
  · exact List.mem_of_getElem? (i := 158) (by decide +kernel)
  · exact List.mem_of_getElem? (i := 160) (by decide +kernel)
  · exact List.mem_of_getElem? (i := 161) (by decide +kernel)
  · exact List.mem_of_getElem? (i := 162) (by decide +kernel)
  · exact List.mem_of_getElem? (i := 163) (by decide +kernel)
  · exact List.mem_of_getElem? (i := 164) (by decide +kernel)
  · exact List.mem_of_getElem? (i := 182) (by decide +kernel)
  · exact List.mem_of_getElem? (i := 477) (by decide +kernel)
  · exact List.mem_of_getElem? (i := 500) (by decide +kernel)
  · exact List.mem_of_getElem? (i := 502) (by decide +kernel)
  · exact List.mem_of_getElem? (i := 504) (by decide +kernel)
  · exact List.mem_of_getElem? (i := 507) (by decide +kernel)
  · exact List.mem_of_getElem? (i := 534) (by decide +kernel)
  · exact List.mem_of_getElem? (i := 539) (by decide +kernel)
  · exact List.mem_of_getElem? (i := 584) (by decide +kernel)
  · exact List.mem_of_getElem? (i := 585) (by decide +kernel)
  · exact List.mem_of_getElem? (i := 586) (by decide +kernel)
  · exact List.mem_of_getElem? (i := 782) (by decide +kernel)
theorem am_u0 : ∀ w ∈ u_ws RX0 TX0 5, w ∈ am_tbl := by
  intro w h
  obtain ⟨k, hk, rfl⟩ := List.mem_map.mp h
  have hk := List.mem_range.mp hk
  match k, hk with
  | 0, _ => exact am_wd (i := 191) (by decide +kernel) (by decide +kernel)
  | 1, _ => exact am_wd (i := 193) (by decide +kernel) (by decide +kernel)
  | 2, _ => exact am_wd (i := 195) (by decide +kernel) (by decide +kernel)
  | 3, _ => exact am_wd (i := 197) (by decide +kernel) (by decide +kernel)
  | 4, _ => exact am_wd (i := 199) (by decide +kernel) (by decide +kernel)
  | k + 5, hk => exact absurd hk (by omega)
theorem am_u1 : ∀ w ∈ u_ws RX1 TX1 5, w ∈ am_tbl := by
  intro w h
  obtain ⟨k, hk, rfl⟩ := List.mem_map.mp h
  have hk := List.mem_range.mp hk
  match k, hk with
  | 0, _ => exact am_wd (i := 508) (by decide +kernel) (by decide +kernel)
  | 1, _ => exact am_wd (i := 510) (by decide +kernel) (by decide +kernel)
  | 2, _ => exact am_wd (i := 512) (by decide +kernel) (by decide +kernel)
  | 3, _ => exact am_wd (i := 514) (by decide +kernel) (by decide +kernel)
  | 4, _ => exact am_wd (i := 516) (by decide +kernel) (by decide +kernel)
  | k + 5, hk => exact absurd hk (by omega)
theorem am_u2 : ∀ w ∈ u_ws RX2 TX2 7, w ∈ am_tbl := by
  intro w h
  obtain ⟨k, hk, rfl⟩ := List.mem_map.mp h
  have hk := List.mem_range.mp hk
  match k, hk with
  | 0, _ => exact am_wd (i := 165) (by decide +kernel) (by decide +kernel)
  | 1, _ => exact am_wd (i := 167) (by decide +kernel) (by decide +kernel)
  | 2, _ => exact am_wd (i := 169) (by decide +kernel) (by decide +kernel)
  | 3, _ => exact am_wd (i := 171) (by decide +kernel) (by decide +kernel)
  | 4, _ => exact am_wd (i := 173) (by decide +kernel) (by decide +kernel)
  | 5, _ => exact am_wd (i := 175) (by decide +kernel) (by decide +kernel)
  | 6, _ => exact am_wd (i := 177) (by decide +kernel) (by decide +kernel)
  | k + 7, hk => exact absurd hk (by omega)
theorem am_u3 : ∀ w ∈ u_ws RX3 TX3 3, w ∈ am_tbl := by
  intro w h
  obtain ⟨k, hk, rfl⟩ := List.mem_map.mp h
  have hk := List.mem_range.mp hk
  match k, hk with
  | 0, _ => exact am_wd (i := 142) (by decide +kernel) (by decide +kernel)
  | 1, _ => exact am_wd (i := 144) (by decide +kernel) (by decide +kernel)
  | 2, _ => exact am_wd (i := 146) (by decide +kernel) (by decide +kernel)
  | k + 3, hk => exact absurd hk (by omega)
theorem am_u4 : ∀ w ∈ u_ws RX4 TX4 7, w ∈ am_tbl := by
  intro w h
  obtain ⟨k, hk, rfl⟩ := List.mem_map.mp h
  have hk := List.mem_range.mp hk
  match k, hk with
  | 0, _ => exact am_wd (i := 113) (by decide +kernel) (by decide +kernel)
  | 1, _ => exact am_wd (i := 115) (by decide +kernel) (by decide +kernel)
  | 2, _ => exact am_wd (i := 117) (by decide +kernel) (by decide +kernel)
  | 3, _ => exact am_wd (i := 119) (by decide +kernel) (by decide +kernel)
  | 4, _ => exact am_wd (i := 121) (by decide +kernel) (by decide +kernel)
  | 5, _ => exact am_wd (i := 123) (by decide +kernel) (by decide +kernel)
  | 6, _ => exact am_wd (i := 125) (by decide +kernel) (by decide +kernel)
  | k + 7, hk => exact absurd hk (by omega)
theorem am_u5 : ∀ w ∈ u_ws RX5 TX5 4, w ∈ am_tbl := by
  intro w h
  obtain ⟨k, hk, rfl⟩ := List.mem_map.mp h
  have hk := List.mem_range.mp hk
  match k, hk with
  | 0, _ => exact am_wd (i := 369) (by decide +kernel) (by decide +kernel)
  | 1, _ => exact am_wd (i := 371) (by decide +kernel) (by decide +kernel)
  | 2, _ => exact am_wd (i := 373) (by decide +kernel) (by decide +kernel)
  | 3, _ => exact am_wd (i := 375) (by decide +kernel) (by decide +kernel)
  | k + 4, hk => exact absurd hk (by omega)
theorem am_u6 : ∀ w ∈ u_ws RX6 TX6 16, w ∈ am_tbl := by
  intro w h
  obtain ⟨k, hk, rfl⟩ := List.mem_map.mp h
  have hk := List.mem_range.mp hk
  match k, hk with
  | 0, _ => exact am_wd (i := 399) (by decide +kernel) (by decide +kernel)
  | 1, _ => exact am_wd (i := 401) (by decide +kernel) (by decide +kernel)
  | 2, _ => exact am_wd (i := 403) (by decide +kernel) (by decide +kernel)
  | 3, _ => exact am_wd (i := 405) (by decide +kernel) (by decide +kernel)
  | 4, _ => exact am_wd (i := 407) (by decide +kernel) (by decide +kernel)
  | 5, _ => exact am_wd (i := 409) (by decide +kernel) (by decide +kernel)
  | 6, _ => exact am_wd (i := 411) (by decide +kernel) (by decide +kernel)
  | 7, _ => exact am_wd (i := 413) (by decide +kernel) (by decide +kernel)
  | 8, _ => exact am_wd (i := 415) (by decide +kernel) (by decide +kernel)
  | 9, _ => exact am_wd (i := 417) (by decide +kernel) (by decide +kernel)
  | 10, _ => exact am_wd (i := 419) (by decide +kernel) (by decide +kernel)
  | 11, _ => exact am_wd (i := 421) (by decide +kernel) (by decide +kernel)
  | 12, _ => exact am_wd (i := 423) (by decide +kernel) (by decide +kernel)
  | 13, _ => exact am_wd (i := 425) (by decide +kernel) (by decide +kernel)
  | 14, _ => exact am_wd (i := 427) (by decide +kernel) (by decide +kernel)
  | 15, _ => exact am_wd (i := 429) (by decide +kernel) (by decide +kernel)
  | k + 16, hk => exact absurd hk (by omega)
theorem am_u7 : ∀ w ∈ u_ws RX7 TX7 39, w ∈ am_tbl := by
  intro w h
  obtain ⟨k, hk, rfl⟩ := List.mem_map.mp h
  have hk := List.mem_range.mp hk
  match k, hk with
  | 0, _ => exact am_wd (i := 942) (by decide +kernel) (by decide +kernel)
  | 1, _ => exact am_wd (i := 944) (by decide +kernel) (by decide +kernel)
  | 2, _ => exact am_wd (i := 946) (by decide +kernel) (by decide +kernel)
  | 3, _ => exact am_wd (i := 948) (by decide +kernel) (by decide +kernel)
  | 4, _ => exact am_wd (i := 950) (by decide +kernel) (by decide +kernel)
  | 5, _ => exact am_wd (i := 952) (by decide +kernel) (by decide +kernel)
  | 6, _ => exact am_wd (i := 954) (by decide +kernel) (by decide +kernel)
  | 7, _ => exact am_wd (i := 956) (by decide +kernel) (by decide +kernel)
  | 8, _ => exact am_wd (i := 958) (by decide +kernel) (by decide +kernel)
  | 9, _ => exact am_wd (i := 960) (by decide +kernel) (by decide +kernel)
  | 10, _ => exact am_wd (i := 962) (by decide +kernel) (by decide +kernel)
  | 11, _ => exact am_wd (i := 964) (by decide +kernel) (by decide +kernel)
  | 12, _ => exact am_wd (i := 966) (by decide +kernel) (by decide +kernel)
  | 13, _ => exact am_wd (i := 968) (by decide +kernel) (by decide +kernel)
  | 14, _ => exact am_wd (i := 970) (by decide +kernel) (by decide +kernel)
  | 15, _ => exact am_wd (i := 972) (by decide +kernel) (by decide +kernel)
  | 16, _ => exact am_wd (i := 974) (by decide +kernel) (by decide +kernel)
  | 17, _ => exact am_wd (i := 976) (by decide +kernel) (by decide +kernel)
  | 18, _ => exact am_wd (i := 978) (by decide +kernel) (by decide +kernel)
  | 19, _ => exact am_wd (i := 980) (by decide +kernel) (by decide +kernel)
  | 20, _ => exact am_wd (i := 982) (by decide +kernel) (by decide +kernel)
  | 21, _ => exact am_wd (i := 984) (by decide +kernel) (by decide +kernel)
  | 22, _ => exact am_wd (i := 986) (by decide +kernel) (by decide +kernel)
  | 23, _ => exact am_wd (i := 988) (by decide +kernel) (by decide +kernel)
  | 24, _ => exact am_wd (i := 990) (by decide +kernel) (by decide +kernel)
  | 25, _ => exact am_wd (i := 992) (by decide +kernel) (by decide +kernel)
  | 26, _ => exact am_wd (i := 994) (by decide +kernel) (by decide +kernel)
  | 27, _ => exact am_wd (i := 996) (by decide +kernel) (by decide +kernel)
  | 28, _ => exact am_wd (i := 998) (by decide +kernel) (by decide +kernel)
  | 29, _ => exact am_wd (i := 1000) (by decide +kernel) (by decide +kernel)
  | 30, _ => exact am_wd (i := 1002) (by decide +kernel) (by decide +kernel)
  | 31, _ => exact am_wd (i := 1004) (by decide +kernel) (by decide +kernel)
  | 32, _ => exact am_wd (i := 1006) (by decide +kernel) (by decide +kernel)
  | 33, _ => exact am_wd (i := 1008) (by decide +kernel) (by decide +kernel)
  | 34, _ => exact am_wd (i := 1010) (by decide +kernel) (by decide +kernel)
  | 35, _ => exact am_wd (i := 1012) (by decide +kernel) (by decide +kernel)
  | 36, _ => exact am_wd (i := 1014) (by decide +kernel) (by decide +kernel)
  | 37, _ => exact am_wd (i := 1016) (by decide +kernel) (by decide +kernel)
  | 38, _ => exact am_wd (i := 1018) (by decide +kernel) (by decide +kernel)
  | k + 39, hk => exact absurd hk (by omega)
theorem am_ib0 : Cond.instantiable RX0 5 ∈ am_tbl := am_wd (i := 181) (by decide +kernel) (by decide +kernel)
theorem am_in0 : Cond.initialized RX0 ∈ am_tbl := am_wd (i := 74) (by decide +kernel) (by decide +kernel)
theorem am_ib1 : Cond.instantiable RX1 5 ∈ am_tbl := am_wd (i := 494) (by decide +kernel) (by decide +kernel)
theorem am_in1 : Cond.initialized RX1 ∈ am_tbl := am_wd (i := 84) (by decide +kernel) (by decide +kernel)
theorem am_ib2 : Cond.instantiable RX2 7 ∈ am_tbl := am_wd (i := 150) (by decide +kernel) (by decide +kernel)
theorem am_in2 : Cond.initialized RX2 ∈ am_tbl := am_wd (i := 73) (by decide +kernel) (by decide +kernel)
theorem am_ib3 : Cond.instantiable RX3 3 ∈ am_tbl := am_wd (i := 131) (by decide +kernel) (by decide +kernel)
theorem am_in3 : Cond.initialized RX3 ∈ am_tbl := am_wd (i := 72) (by decide +kernel) (by decide +kernel)
theorem am_ib4 : Cond.instantiable RX4 7 ∈ am_tbl := am_wd (i := 99) (by decide +kernel) (by decide +kernel)
theorem am_in4 : Cond.initialized RX4 ∈ am_tbl := am_wd (i := 71) (by decide +kernel) (by decide +kernel)
theorem am_ib5 : Cond.instantiable RX5 4 ∈ am_tbl := am_wd (i := 344) (by decide +kernel) (by decide +kernel)
theorem am_in5 : Cond.initialized RX5 ∈ am_tbl := am_wd (i := 79) (by decide +kernel) (by decide +kernel)
theorem am_ib6 : Cond.instantiable RX6 16 ∈ am_tbl := am_wd (i := 87) (by decide +kernel) (by decide +kernel)
theorem am_in6 : Cond.initialized RX6 ∈ am_tbl := am_wd (i := 70) (by decide +kernel) (by decide +kernel)
theorem am_ib7 : Cond.instantiable RX7 39 ∈ am_tbl := am_wd (i := 851) (by decide +kernel) (by decide +kernel)
theorem am_in7 : Cond.initialized RX7 ∈ am_tbl := am_wd (i := 83) (by decide +kernel) (by decide +kernel)
theorem cl_L_7 : Cond.classLink RL 7 RX6 ∈ am_tbl := am_wd (i := 86) (by decide +kernel) (by decide +kernel)
theorem cl_X6_9 : Cond.classLink RX6 9 RX1 ∈ am_tbl := am_wd (i := 94) (by decide +kernel) (by decide +kernel)
theorem cl_X6_25 : Cond.classLink RX6 25 RX5 ∈ am_tbl := am_wd (i := 96) (by decide +kernel) (by decide +kernel)
theorem cl_X6_31 : Cond.classLink RX6 31 RX4 ∈ am_tbl := am_wd (i := 98) (by decide +kernel) (by decide +kernel)
theorem cl_X6_38 : Cond.classLink RX6 38 RX3 ∈ am_tbl := am_wd (i := 129) (by decide +kernel) (by decide +kernel)
theorem cl_X6_45 : Cond.classLink RX6 45 RX2 ∈ am_tbl := am_wd (i := 149) (by decide +kernel) (by decide +kernel)
theorem cl_X6_52 : Cond.classLink RX6 52 RX0 ∈ am_tbl := am_wd (i := 180) (by decide +kernel) (by decide +kernel)
theorem cl_X4_50 : Cond.classLink RX4 50 RX5 ∈ am_tbl := am_wd (i := 343) (by decide +kernel) (by decide +kernel)
theorem ct_J6_265 : Cond.constant RJ6 265 (1431655765) ∈ am_tbl := am_wd (i := 684) (by decide +kernel) (by decide +kernel)
theorem ct_J6_266 : Cond.constant RJ6 266 (858993459) ∈ am_tbl := am_wd (i := 685) (by decide +kernel) (by decide +kernel)
theorem ct_J6_267 : Cond.constant RJ6 267 (252645135) ∈ am_tbl := am_wd (i := 686) (by decide +kernel) (by decide +kernel)
theorem ct_X6_205 : Cond.constant RX6 205 (-100000) ∈ am_tbl := am_wd (i := 711) (by decide +kernel) (by decide +kernel)
theorem ct_X6_209 : Cond.constantLong RX6 209 (-4611686018427387904) ∈ am_tbl := am_wd (i := 719) (by decide +kernel) (by decide +kernel)
theorem ct_X6_234 : Cond.constant RX6 234 (100000) ∈ am_tbl := am_wd (i := 794) (by decide +kernel) (by decide +kernel)
theorem ct_X6_325 : Cond.constantLong RX6 325 (48271) ∈ am_tbl := am_wd (i := 803) (by decide +kernel) (by decide +kernel)
theorem ct_X6_327 : Cond.constantLong RX6 327 (2147483647) ∈ am_tbl := am_wd (i := 804) (by decide +kernel) (by decide +kernel)
theorem ct_X6_329 : Cond.constantLong RX6 329 (3) ∈ am_tbl := am_wd (i := 805) (by decide +kernel) (by decide +kernel)
theorem cl_L_10 : Cond.classLink RL 10 RX7 ∈ am_tbl := am_wd (i := 850) (by decide +kernel) (by decide +kernel)
theorem ct_X7_149 : Cond.constant RX7 149 (100000) ∈ am_tbl := am_wd (i := 875) (by decide +kernel) (by decide +kernel)
theorem ct_X7_244 : Cond.constant RX7 244 (-100000) ∈ am_tbl := am_wd (i := 1217) (by decide +kernel) (by decide +kernel)
theorem ct_X7_245 : Cond.constantLong RX7 245 (-4611686018427387904) ∈ am_tbl := am_wd (i := 1222) (by decide +kernel) (by decide +kernel)
theorem ct_X7_266 : Cond.constant RX7 266 (99999) ∈ am_tbl := am_wd (i := 1266) (by decide +kernel) (by decide +kernel)
theorem ct_X7_260 : Cond.constantLong RX7 260 (48271) ∈ am_tbl := am_wd (i := 1271) (by decide +kernel) (by decide +kernel)
theorem ct_X7_262 : Cond.constantLong RX7 262 (2147483647) ∈ am_tbl := am_wd (i := 1272) (by decide +kernel) (by decide +kernel)
theorem ct_X7_264 : Cond.constantLong RX7 264 (3) ∈ am_tbl := am_wd (i := 1273) (by decide +kernel) (by decide +kernel)
theorem am_ai : Cond.arrayClass .int ∈ am_tbl := am_wd (i := 128) (by decide +kernel) (by decide +kernel)
def am_cl (c : Nat) : vw_C := vwCl.getD c (RX7, TX7, 39)
/-- the place index of a class own names field k of class c -/
def am_fl (own : String) (idx c k : Nat) : Prop := (Cond.fieldLink own idx ((am_cl c).2.1 k).1 ((am_cl c).2.1 k).2.1 ((am_cl c).2.1 k).2.2.1 ∈ am_tbl) ∨ ∃ host, Cond.fieldLinkNest own idx ((am_cl c).2.1 k).1 ((am_cl c).2.1 k).2.1 ((am_cl c).2.1 k).2.2.1 host ∈ am_nest
theorem fl_X4_9 : am_fl RX4 9 4 0 := Or.inl (am_wd (i := 104) (by decide +kernel) (by decide +kernel))
theorem fl_X4_13 : am_fl RX4 13 4 1 := Or.inl (am_wd (i := 105) (by decide +kernel) (by decide +kernel))
theorem fl_X4_16 : am_fl RX4 16 4 2 := Or.inl (am_wd (i := 106) (by decide +kernel) (by decide +kernel))
theorem fl_X6_94 : am_fl RX6 94 4 2 := Or.inr ⟨RX6, List.mem_of_getElem? (i := 1) (by decide +kernel)⟩
theorem fl_X4_34 : am_fl RX4 34 4 3 := Or.inl (am_wd (i := 108) (by decide +kernel) (by decide +kernel))
theorem fl_X6_105 : am_fl RX6 105 4 4 := Or.inr ⟨RX6, List.mem_of_getElem? (i := 2) (by decide +kernel)⟩
theorem fl_X4_92 : am_fl RX4 92 4 4 := Or.inl (am_wd (i := 110) (by decide +kernel) (by decide +kernel))
theorem fl_X4_47 : am_fl RX4 47 4 5 := Or.inl (am_wd (i := 111) (by decide +kernel) (by decide +kernel))
theorem fl_X4_37 : am_fl RX4 37 4 6 := Or.inl (am_wd (i := 112) (by decide +kernel) (by decide +kernel))
theorem fl_X3_9 : am_fl RX3 9 3 0 := Or.inl (am_wd (i := 136) (by decide +kernel) (by decide +kernel))
theorem fl_X6_282 : am_fl RX6 282 3 0 := Or.inr ⟨RX6, List.mem_of_getElem? (i := 4) (by decide +kernel)⟩
theorem fl_X3_13 : am_fl RX3 13 3 1 := Or.inl (am_wd (i := 138) (by decide +kernel) (by decide +kernel))
theorem fl_X6_275 : am_fl RX6 275 3 1 := Or.inr ⟨RX6, List.mem_of_getElem? (i := 5) (by decide +kernel)⟩
theorem fl_X3_23 : am_fl RX3 23 3 2 := Or.inl (am_wd (i := 140) (by decide +kernel) (by decide +kernel))
theorem fl_X6_324 : am_fl RX6 324 3 2 := Or.inr ⟨RX6, List.mem_of_getElem? (i := 6) (by decide +kernel)⟩
theorem fl_X2_9 : am_fl RX2 9 2 0 := Or.inl (am_wd (i := 155) (by decide +kernel) (by decide +kernel))
theorem fl_X6_242 : am_fl RX6 242 2 0 := Or.inr ⟨RX6, List.mem_of_getElem? (i := 8) (by decide +kernel)⟩
theorem fl_X2_15 : am_fl RX2 15 2 1 := Or.inl (am_wd (i := 157) (by decide +kernel) (by decide +kernel))
theorem fl_X6_249 : am_fl RX6 249 2 1 := Or.inr ⟨RX6, List.mem_of_getElem? (i := 9) (by decide +kernel)⟩
theorem fl_X2_18 : am_fl RX2 18 2 2 := Or.inl (am_wd (i := 159) (by decide +kernel) (by decide +kernel))
theorem fl_X6_252 : am_fl RX6 252 2 2 := Or.inr ⟨RX6, List.mem_of_getElem? (i := 10) (by decide +kernel)⟩
theorem fl_X6_238 : am_fl RX6 238 2 3 := Or.inr ⟨RX6, List.mem_of_getElem? (i := 11) (by decide +kernel)⟩
theorem fl_X6_259 : am_fl RX6 259 2 4 := Or.inr ⟨RX6, List.mem_of_getElem? (i := 12) (by decide +kernel)⟩
theorem fl_X6_261 : am_fl RX6 261 2 5 := Or.inr ⟨RX6, List.mem_of_getElem? (i := 13) (by decide +kernel)⟩
theorem fl_X6_264 : am_fl RX6 264 2 6 := Or.inr ⟨RX6, List.mem_of_getElem? (i := 14) (by decide +kernel)⟩
theorem fl_X0_9 : am_fl RX0 9 0 0 := Or.inl (am_wd (i := 186) (by decide +kernel) (by decide +kernel))
theorem fl_X0_15 : am_fl RX0 15 0 1 := Or.inl (am_wd (i := 187) (by decide +kernel) (by decide +kernel))
theorem fl_X0_18 : am_fl RX0 18 0 2 := Or.inl (am_wd (i := 188) (by decide +kernel) (by decide +kernel))
theorem fl_X0_23 : am_fl RX0 23 0 3 := Or.inl (am_wd (i := 189) (by decide +kernel) (by decide +kernel))
theorem fl_X0_36 : am_fl RX0 36 0 4 := Or.inl (am_wd (i := 190) (by decide +kernel) (by decide +kernel))
theorem fl_X5_15 : am_fl RX5 15 5 0 := Or.inl (am_wd (i := 365) (by decide +kernel) (by decide +kernel))
theorem fl_X5_18 : am_fl RX5 18 5 1 := Or.inl (am_wd (i := 366) (by decide +kernel) (by decide +kernel))
theorem fl_X5_22 : am_fl RX5 22 5 2 := Or.inl (am_wd (i := 367) (by decide +kernel) (by decide +kernel))
theorem fl_X5_11 : am_fl RX5 11 5 3 := Or.inl (am_wd (i := 368) (by decide +kernel) (by decide +kernel))
theorem fl_X6_11 : am_fl RX6 11 6 0 := Or.inl (am_wd (i := 383) (by decide +kernel) (by decide +kernel))
theorem fl_X6_15 : am_fl RX6 15 6 1 := Or.inl (am_wd (i := 384) (by decide +kernel) (by decide +kernel))
theorem fl_X6_19 : am_fl RX6 19 6 2 := Or.inl (am_wd (i := 385) (by decide +kernel) (by decide +kernel))
theorem fl_X6_22 : am_fl RX6 22 6 3 := Or.inl (am_wd (i := 386) (by decide +kernel) (by decide +kernel))
theorem fl_X6_27 : am_fl RX6 27 6 4 := Or.inl (am_wd (i := 387) (by decide +kernel) (by decide +kernel))
theorem fl_X6_34 : am_fl RX6 34 6 5 := Or.inl (am_wd (i := 388) (by decide +kernel) (by decide +kernel))
theorem fl_X6_41 : am_fl RX6 41 6 6 := Or.inl (am_wd (i := 389) (by decide +kernel) (by decide +kernel))
theorem fl_X6_48 : am_fl RX6 48 6 7 := Or.inl (am_wd (i := 390) (by decide +kernel) (by decide +kernel))
theorem fl_X6_55 : am_fl RX6 55 6 8 := Or.inl (am_wd (i := 391) (by decide +kernel) (by decide +kernel))
theorem fl_X6_59 : am_fl RX6 59 6 9 := Or.inl (am_wd (i := 392) (by decide +kernel) (by decide +kernel))
theorem fl_X6_62 : am_fl RX6 62 6 10 := Or.inl (am_wd (i := 393) (by decide +kernel) (by decide +kernel))
theorem fl_X6_65 : am_fl RX6 65 6 11 := Or.inl (am_wd (i := 394) (by decide +kernel) (by decide +kernel))
theorem fl_X6_85 : am_fl RX6 85 6 12 := Or.inl (am_wd (i := 395) (by decide +kernel) (by decide +kernel))
theorem fl_X6_88 : am_fl RX6 88 6 13 := Or.inl (am_wd (i := 396) (by decide +kernel) (by decide +kernel))
theorem fl_X6_81 : am_fl RX6 81 6 14 := Or.inl (am_wd (i := 397) (by decide +kernel) (by decide +kernel))
theorem fl_X6_91 : am_fl RX6 91 6 15 := Or.inl (am_wd (i := 398) (by decide +kernel) (by decide +kernel))
theorem fl_X1_15 : am_fl RX1 15 1 0 := Or.inl (am_wd (i := 499) (by decide +kernel) (by decide +kernel))
theorem fl_X6_146 : am_fl RX6 146 1 0 := Or.inr ⟨RX6, List.mem_of_getElem? (i := 17) (by decide +kernel)⟩
theorem fl_X1_19 : am_fl RX1 19 1 1 := Or.inl (am_wd (i := 501) (by decide +kernel) (by decide +kernel))
theorem fl_X6_152 : am_fl RX6 152 1 1 := Or.inr ⟨RX6, List.mem_of_getElem? (i := 18) (by decide +kernel)⟩
theorem fl_X1_22 : am_fl RX1 22 1 2 := Or.inl (am_wd (i := 503) (by decide +kernel) (by decide +kernel))
theorem fl_X6_149 : am_fl RX6 149 1 2 := Or.inr ⟨RX6, List.mem_of_getElem? (i := 19) (by decide +kernel)⟩
theorem fl_X1_9 : am_fl RX1 9 1 3 := Or.inl (am_wd (i := 505) (by decide +kernel) (by decide +kernel))
theorem fl_X1_25 : am_fl RX1 25 1 4 := Or.inl (am_wd (i := 506) (by decide +kernel) (by decide +kernel))
theorem fl_X6_143 : am_fl RX6 143 1 4 := Or.inr ⟨RX6, List.mem_of_getElem? (i := 20) (by decide +kernel)⟩
theorem fl_X7_87 : am_fl RX7 87 7 0 := Or.inl (am_wd (i := 903) (by decide +kernel) (by decide +kernel))
theorem fl_X7_7 : am_fl RX7 7 7 1 := Or.inl (am_wd (i := 904) (by decide +kernel) (by decide +kernel))
theorem fl_X7_13 : am_fl RX7 13 7 2 := Or.inl (am_wd (i := 905) (by decide +kernel) (by decide +kernel))
theorem fl_X7_16 : am_fl RX7 16 7 3 := Or.inl (am_wd (i := 906) (by decide +kernel) (by decide +kernel))
theorem fl_X7_19 : am_fl RX7 19 7 4 := Or.inl (am_wd (i := 907) (by decide +kernel) (by decide +kernel))
theorem fl_X7_22 : am_fl RX7 22 7 5 := Or.inl (am_wd (i := 908) (by decide +kernel) (by decide +kernel))
theorem fl_X7_94 : am_fl RX7 94 7 6 := Or.inl (am_wd (i := 909) (by decide +kernel) (by decide +kernel))
theorem fl_X7_25 : am_fl RX7 25 7 7 := Or.inl (am_wd (i := 910) (by decide +kernel) (by decide +kernel))
theorem fl_X7_28 : am_fl RX7 28 7 8 := Or.inl (am_wd (i := 911) (by decide +kernel) (by decide +kernel))
theorem fl_X7_31 : am_fl RX7 31 7 9 := Or.inl (am_wd (i := 912) (by decide +kernel) (by decide +kernel))
theorem fl_X7_34 : am_fl RX7 34 7 10 := Or.inl (am_wd (i := 913) (by decide +kernel) (by decide +kernel))
theorem fl_X7_79 : am_fl RX7 79 7 11 := Or.inl (am_wd (i := 914) (by decide +kernel) (by decide +kernel))
theorem fl_X7_37 : am_fl RX7 37 7 12 := Or.inl (am_wd (i := 915) (by decide +kernel) (by decide +kernel))
theorem fl_X7_40 : am_fl RX7 40 7 13 := Or.inl (am_wd (i := 916) (by decide +kernel) (by decide +kernel))
theorem fl_X7_97 : am_fl RX7 97 7 14 := Or.inl (am_wd (i := 917) (by decide +kernel) (by decide +kernel))
theorem fl_X7_100 : am_fl RX7 100 7 15 := Or.inl (am_wd (i := 918) (by decide +kernel) (by decide +kernel))
theorem fl_X7_270 : am_fl RX7 270 7 16 := Or.inl (am_wd (i := 919) (by decide +kernel) (by decide +kernel))
theorem fl_X7_274 : am_fl RX7 274 7 17 := Or.inl (am_wd (i := 920) (by decide +kernel) (by decide +kernel))
theorem fl_X7_277 : am_fl RX7 277 7 18 := Or.inl (am_wd (i := 921) (by decide +kernel) (by decide +kernel))
theorem fl_X7_280 : am_fl RX7 280 7 19 := Or.inl (am_wd (i := 922) (by decide +kernel) (by decide +kernel))
theorem fl_X7_43 : am_fl RX7 43 7 20 := Or.inl (am_wd (i := 923) (by decide +kernel) (by decide +kernel))
theorem fl_X7_46 : am_fl RX7 46 7 21 := Or.inl (am_wd (i := 924) (by decide +kernel) (by decide +kernel))
theorem fl_X7_49 : am_fl RX7 49 7 22 := Or.inl (am_wd (i := 925) (by decide +kernel) (by decide +kernel))
theorem fl_X7_52 : am_fl RX7 52 7 23 := Or.inl (am_wd (i := 926) (by decide +kernel) (by decide +kernel))
theorem fl_X7_55 : am_fl RX7 55 7 24 := Or.inl (am_wd (i := 927) (by decide +kernel) (by decide +kernel))
theorem fl_X7_58 : am_fl RX7 58 7 25 := Or.inl (am_wd (i := 928) (by decide +kernel) (by decide +kernel))
theorem fl_X7_61 : am_fl RX7 61 7 26 := Or.inl (am_wd (i := 929) (by decide +kernel) (by decide +kernel))
theorem fl_X7_107 : am_fl RX7 107 7 27 := Or.inl (am_wd (i := 930) (by decide +kernel) (by decide +kernel))
theorem fl_X7_110 : am_fl RX7 110 7 28 := Or.inl (am_wd (i := 931) (by decide +kernel) (by decide +kernel))
theorem fl_X7_113 : am_fl RX7 113 7 29 := Or.inl (am_wd (i := 932) (by decide +kernel) (by decide +kernel))
theorem fl_X7_116 : am_fl RX7 116 7 30 := Or.inl (am_wd (i := 933) (by decide +kernel) (by decide +kernel))
theorem fl_X7_64 : am_fl RX7 64 7 31 := Or.inl (am_wd (i := 934) (by decide +kernel) (by decide +kernel))
theorem fl_X7_67 : am_fl RX7 67 7 32 := Or.inl (am_wd (i := 935) (by decide +kernel) (by decide +kernel))
theorem fl_X7_126 : am_fl RX7 126 7 33 := Or.inl (am_wd (i := 936) (by decide +kernel) (by decide +kernel))
theorem fl_X7_133 : am_fl RX7 133 7 34 := Or.inl (am_wd (i := 937) (by decide +kernel) (by decide +kernel))
theorem fl_X7_123 : am_fl RX7 123 7 35 := Or.inl (am_wd (i := 938) (by decide +kernel) (by decide +kernel))
theorem fl_X7_70 : am_fl RX7 70 7 36 := Or.inl (am_wd (i := 939) (by decide +kernel) (by decide +kernel))
theorem fl_X7_73 : am_fl RX7 73 7 37 := Or.inl (am_wd (i := 940) (by decide +kernel) (by decide +kernel))
theorem fl_X7_76 : am_fl RX7 76 7 38 := Or.inl (am_wd (i := 941) (by decide +kernel) (by decide +kernel))
abbrev am_Mi : Type := MethodName × ByteArray × Nat × Option FieldType
abbrev am_code (M : am_Mi) : Cond := .code M.1 M.2.1 M.2.2.1 M.2.2.2
def am_ok (M : am_Mi) (n : Nat) : Prop := am_code M ∈ am_tbl ∧ Cond.initialized M.1.cls ∈ am_tbl ∧ (M.1.cls ≠ "java/lang/invoke/MethodHandle" ∧ M.1.cls ≠ "java/lang/invoke/VarHandle" ∧ (parseMethodDescriptor M.1.desc).map (fun d => d.parameters.length) = some n) ∧ plainName M.1.cls = true
def am_mV (M : am_Mi) (n : Nat) : Prop := am_ok M n ∧ Cond.instanceMethod M.1 ∈ am_tbl ∧ Cond.selects M.1.cls M.1 M.1 ∈ am_tbl
def am_mS (M : am_Mi) (n : Nat) : Prop := am_ok M n ∧ Cond.static M.1 ∈ am_tbl
def am_mI (M : am_Mi) (n : Nat) : Prop := am_ok M n ∧ Cond.instanceMethod M.1 ∈ am_tbl ∧ M.1.name = "<init>" ∧ M.2.2.2 = none
abbrev mX6_init : am_Mi := (yX6_init, cX6_init, 1, none)
theorem moX6_init : am_ok mX6_init 0 := ⟨am_wd (i := 90) (by decide +kernel) (by decide +kernel), am_wd (i := 70) (by decide +kernel) (by decide +kernel), ⟨by decide +kernel, by decide +kernel, by decide +kernel⟩, by decide +kernel⟩
theorem mfX6_init : am_mI mX6_init 0 := ⟨moX6_init, am_wd (i := 89) (by decide +kernel) (by decide +kernel), by decide +kernel, rfl⟩
abbrev mX4_init : am_Mi := (yX4_init, cX4_init, 1, none)
theorem moX4_init : am_ok mX4_init 0 := ⟨am_wd (i := 102) (by decide +kernel) (by decide +kernel), am_wd (i := 71) (by decide +kernel) (by decide +kernel), ⟨by decide +kernel, by decide +kernel, by decide +kernel⟩, by decide +kernel⟩
theorem mfX4_init : am_mI mX4_init 0 := ⟨moX4_init, am_wd (i := 101) (by decide +kernel) (by decide +kernel), by decide +kernel, rfl⟩
abbrev mX3_init : am_Mi := (yX3_init, cX3_init, 1, none)
theorem moX3_init : am_ok mX3_init 0 := ⟨am_wd (i := 134) (by decide +kernel) (by decide +kernel), am_wd (i := 72) (by decide +kernel) (by decide +kernel), ⟨by decide +kernel, by decide +kernel, by decide +kernel⟩, by decide +kernel⟩
theorem mfX3_init : am_mI mX3_init 0 := ⟨moX3_init, am_wd (i := 133) (by decide +kernel) (by decide +kernel), by decide +kernel, rfl⟩
abbrev mX2_init : am_Mi := (yX2_init, cX2_init, 1, none)
theorem moX2_init : am_ok mX2_init 0 := ⟨am_wd (i := 153) (by decide +kernel) (by decide +kernel), am_wd (i := 73) (by decide +kernel) (by decide +kernel), ⟨by decide +kernel, by decide +kernel, by decide +kernel⟩, by decide +kernel⟩
theorem mfX2_init : am_mI mX2_init 0 := ⟨moX2_init, am_wd (i := 152) (by decide +kernel) (by decide +kernel), by decide +kernel, rfl⟩
abbrev mX0_init : am_Mi := (yX0_init, cX0_init, 1, none)
theorem moX0_init : am_ok mX0_init 0 := ⟨am_wd (i := 184) (by decide +kernel) (by decide +kernel), am_wd (i := 74) (by decide +kernel) (by decide +kernel), ⟨by decide +kernel, by decide +kernel, by decide +kernel⟩, by decide +kernel⟩
theorem mfX0_init : am_mI mX0_init 0 := ⟨moX0_init, am_wd (i := 183) (by decide +kernel) (by decide +kernel), by decide +kernel, rfl⟩
abbrev mX4_write : am_Mi := (yX4_write, cX4_write, 3, none)
theorem moX4_write : am_ok mX4_write 1 := ⟨am_wd (i := 206) (by decide +kernel) (by decide +kernel), am_wd (i := 71) (by decide +kernel) (by decide +kernel), ⟨by decide +kernel, by decide +kernel, by decide +kernel⟩, by decide +kernel⟩
theorem mfX4_write : am_mV mX4_write 1 := ⟨moX4_write, am_wd (i := 204) (by decide +kernel) (by decide +kernel), am_wd (i := 205) (by decide +kernel) (by decide +kernel)⟩
abbrev mJ0_length_8abf5 : am_Mi := (yJ0_length_8abf5, cJ0_length_8abf5, 1, (some .int))
theorem moJ0_length_8abf5 : am_ok mJ0_length_8abf5 0 := ⟨am_wd (i := 210) (by decide +kernel) (by decide +kernel), am_wd (i := 75) (by decide +kernel) (by decide +kernel), ⟨by decide +kernel, by decide +kernel, by decide +kernel⟩, by decide +kernel⟩
theorem mfJ0_length_8abf5 : am_mV mJ0_length_8abf5 0 := ⟨moJ0_length_8abf5, am_wd (i := 208) (by decide +kernel) (by decide +kernel), am_wd (i := 209) (by decide +kernel) (by decide +kernel)⟩
abbrev mJ0_coder_7d493 : am_Mi := (yJ0_coder_7d493, cJ0_coder_7d493, 1, (some .byte))
theorem moJ0_coder_7d493 : am_ok mJ0_coder_7d493 0 := ⟨am_wd (i := 214) (by decide +kernel) (by decide +kernel), am_wd (i := 75) (by decide +kernel) (by decide +kernel), ⟨by decide +kernel, by decide +kernel, by decide +kernel⟩, by decide +kernel⟩
theorem mfJ0_coder_7d493 : am_mV mJ0_coder_7d493 0 := ⟨moJ0_coder_7d493, am_wd (i := 212) (by decide +kernel) (by decide +kernel), am_wd (i := 213) (by decide +kernel) (by decide +kernel)⟩
abbrev mJ0_charAt_5068e : am_Mi := (yJ0_charAt_5068e, cJ0_charAt_5068e, 2, (some .char))
theorem moJ0_charAt_5068e : am_ok mJ0_charAt_5068e 1 := ⟨am_wd (i := 220) (by decide +kernel) (by decide +kernel), am_wd (i := 75) (by decide +kernel) (by decide +kernel), ⟨by decide +kernel, by decide +kernel, by decide +kernel⟩, by decide +kernel⟩
theorem mfJ0_charAt_5068e : am_mV mJ0_charAt_5068e 1 := ⟨moJ0_charAt_5068e, am_wd (i := 218) (by decide +kernel) (by decide +kernel), am_wd (i := 219) (by decide +kernel) (by decide +kernel)⟩
abbrev mJ0_isLatin1_aae02 : am_Mi := (yJ0_isLatin1_aae02, cJ0_isLatin1_aae02, 1, (some .boolean))
theorem moJ0_isLatin1_aae02 : am_ok mJ0_isLatin1_aae02 0 := ⟨am_wd (i := 224) (by decide +kernel) (by decide +kernel), am_wd (i := 75) (by decide +kernel) (by decide +kernel), ⟨by decide +kernel, by decide +kernel, by decide +kernel⟩, by decide +kernel⟩
theorem mfJ0_isLatin1_aae02 : am_mV mJ0_isLatin1_aae02 0 := ⟨moJ0_isLatin1_aae02, am_wd (i := 222) (by decide +kernel) (by decide +kernel), am_wd (i := 223) (by decide +kernel) (by decide +kernel)⟩
abbrev mJ1_charAt_3b067 : am_Mi := (yJ1_charAt_3b067, cJ1_charAt_3b067, 2, (some .char))
theorem moJ1_charAt_3b067 : am_ok mJ1_charAt_3b067 2 := ⟨am_wd (i := 227) (by decide +kernel) (by decide +kernel), am_wd (i := 76) (by decide +kernel) (by decide +kernel), ⟨by decide +kernel, by decide +kernel, by decide +kernel⟩, by decide +kernel⟩
theorem mfJ1_charAt_3b067 : am_mS mJ1_charAt_3b067 2 := ⟨moJ1_charAt_3b067, am_wd (i := 226) (by decide +kernel) (by decide +kernel)⟩
abbrev mJ0_checkIndex_df160 : am_Mi := (yJ0_checkIndex_df160, cJ0_checkIndex_df160, 2, none)
theorem moJ0_checkIndex_df160 : am_ok mJ0_checkIndex_df160 2 := ⟨am_wd (i := 230) (by decide +kernel) (by decide +kernel), am_wd (i := 75) (by decide +kernel) (by decide +kernel), ⟨by decide +kernel, by decide +kernel, by decide +kernel⟩, by decide +kernel⟩
theorem mfJ0_checkIndex_df160 : am_mS mJ0_checkIndex_df160 2 := ⟨moJ0_checkIndex_df160, am_wd (i := 229) (by decide +kernel) (by decide +kernel)⟩
abbrev mJ3_checkIndex_8e157 : am_Mi := (yJ3_checkIndex_8e157, cJ3_checkIndex_8e157, 3, (some .int))
theorem moJ3_checkIndex_8e157 : am_ok mJ3_checkIndex_8e157 3 := ⟨am_wd (i := 235) (by decide +kernel) (by decide +kernel), am_wd (i := 77) (by decide +kernel) (by decide +kernel), ⟨by decide +kernel, by decide +kernel, by decide +kernel⟩, by decide +kernel⟩
theorem mfJ3_checkIndex_8e157 : am_mS mJ3_checkIndex_8e157 3 := ⟨moJ3_checkIndex_8e157, am_wd (i := 234) (by decide +kernel) (by decide +kernel)⟩
abbrev mJ2_charAt_3b067 : am_Mi := (yJ2_charAt_3b067, cJ2_charAt_3b067, 2, (some .char))
theorem moJ2_charAt_3b067 : am_ok mJ2_charAt_3b067 2 := ⟨am_wd (i := 238) (by decide +kernel) (by decide +kernel), am_wd (i := 78) (by decide +kernel) (by decide +kernel), ⟨by decide +kernel, by decide +kernel, by decide +kernel⟩, by decide +kernel⟩
theorem mfJ2_charAt_3b067 : am_mS mJ2_charAt_3b067 2 := ⟨moJ2_charAt_3b067, am_wd (i := 237) (by decide +kernel) (by decide +kernel)⟩
abbrev mJ2_checkIndex_2214a : am_Mi := (yJ2_checkIndex_2214a, cJ2_checkIndex_2214a, 2, none)
theorem moJ2_checkIndex_2214a : am_ok mJ2_checkIndex_2214a 2 := ⟨am_wd (i := 241) (by decide +kernel) (by decide +kernel), am_wd (i := 78) (by decide +kernel) (by decide +kernel), ⟨by decide +kernel, by decide +kernel, by decide +kernel⟩, by decide +kernel⟩
theorem mfJ2_checkIndex_2214a : am_mS mJ2_checkIndex_2214a 2 := ⟨moJ2_checkIndex_2214a, am_wd (i := 240) (by decide +kernel) (by decide +kernel)⟩
abbrev mJ2_length_9d52b : am_Mi := (yJ2_length_9d52b, cJ2_length_9d52b, 1, (some .int))
theorem moJ2_length_9d52b : am_ok mJ2_length_9d52b 1 := ⟨am_wd (i := 244) (by decide +kernel) (by decide +kernel), am_wd (i := 78) (by decide +kernel) (by decide +kernel), ⟨by decide +kernel, by decide +kernel, by decide +kernel⟩, by decide +kernel⟩
theorem mfJ2_length_9d52b : am_mS mJ2_length_9d52b 1 := ⟨moJ2_length_9d52b, am_wd (i := 243) (by decide +kernel) (by decide +kernel)⟩
abbrev mJ2_getChar_3b067 : am_Mi := (yJ2_getChar_3b067, cJ2_getChar_3b067, 2, (some .char))
theorem moJ2_getChar_3b067 : am_ok mJ2_getChar_3b067 2 := ⟨am_wd (i := 248) (by decide +kernel) (by decide +kernel), am_wd (i := 78) (by decide +kernel) (by decide +kernel), ⟨by decide +kernel, by decide +kernel, by decide +kernel⟩, by decide +kernel⟩
theorem mfJ2_getChar_3b067 : am_mS mJ2_getChar_3b067 2 := ⟨moJ2_getChar_3b067, am_wd (i := 247) (by decide +kernel) (by decide +kernel)⟩
abbrev mX4_put : am_Mi := (yX4_put, cX4_put, 2, none)
theorem moX4_put : am_ok mX4_put 1 := ⟨am_wd (i := 258) (by decide +kernel) (by decide +kernel), am_wd (i := 71) (by decide +kernel) (by decide +kernel), ⟨by decide +kernel, by decide +kernel, by decide +kernel⟩, by decide +kernel⟩
theorem mfX4_put : am_mV mX4_put 1 := ⟨moX4_put, am_wd (i := 256) (by decide +kernel) (by decide +kernel), am_wd (i := 257) (by decide +kernel) (by decide +kernel)⟩
abbrev mX4_read : am_Mi := (yX4_read, cX4_read, 3, (some (.object "QuestionsInAnInn$Text")))
theorem moX4_read : am_ok mX4_read 0 := ⟨am_wd (i := 262) (by decide +kernel) (by decide +kernel), am_wd (i := 71) (by decide +kernel) (by decide +kernel), ⟨by decide +kernel, by decide +kernel, by decide +kernel⟩, by decide +kernel⟩
theorem mfX4_read : am_mV mX4_read 0 := ⟨moX4_read, am_wd (i := 260) (by decide +kernel) (by decide +kernel), am_wd (i := 261) (by decide +kernel) (by decide +kernel)⟩
abbrev mX4_next : am_Mi := (yX4_next, cX4_next, 1, none)
theorem moX4_next : am_ok mX4_next 0 := ⟨am_wd (i := 266) (by decide +kernel) (by decide +kernel), am_wd (i := 71) (by decide +kernel) (by decide +kernel), ⟨by decide +kernel, by decide +kernel, by decide +kernel⟩, by decide +kernel⟩
theorem mfX4_next : am_mV mX4_next 0 := ⟨moX4_next, am_wd (i := 265) (by decide +kernel) (by decide +kernel), am_wd (i := 0) (by decide +kernel) (by decide +kernel)⟩
abbrev mX4_byteAt : am_Mi := (yX4_byteAt, cX4_byteAt, 2, (some .int))
theorem moX4_byteAt : am_ok mX4_byteAt 1 := ⟨am_wd (i := 270) (by decide +kernel) (by decide +kernel), am_wd (i := 71) (by decide +kernel) (by decide +kernel), ⟨by decide +kernel, by decide +kernel, by decide +kernel⟩, by decide +kernel⟩
theorem mfX4_byteAt : am_mV mX4_byteAt 1 := ⟨moX4_byteAt, am_wd (i := 269) (by decide +kernel) (by decide +kernel), am_wd (i := 1) (by decide +kernel) (by decide +kernel)⟩
abbrev mX4_isBlank : am_Mi := (yX4_isBlank, cX4_isBlank, 1, (some .boolean))
theorem moX4_isBlank : am_ok mX4_isBlank 1 := ⟨am_wd (i := 273) (by decide +kernel) (by decide +kernel), am_wd (i := 71) (by decide +kernel) (by decide +kernel), ⟨by decide +kernel, by decide +kernel, by decide +kernel⟩, by decide +kernel⟩
theorem mfX4_isBlank : am_mS mX4_isBlank 1 := ⟨moX4_isBlank, am_wd (i := 272) (by decide +kernel) (by decide +kernel)⟩
abbrev mX4_isLetter : am_Mi := (yX4_isLetter, cX4_isLetter, 1, (some .boolean))
theorem moX4_isLetter : am_ok mX4_isLetter 1 := ⟨am_wd (i := 276) (by decide +kernel) (by decide +kernel), am_wd (i := 71) (by decide +kernel) (by decide +kernel), ⟨by decide +kernel, by decide +kernel, by decide +kernel⟩, by decide +kernel⟩
theorem mfX4_isLetter : am_mS mX4_isLetter 1 := ⟨moX4_isLetter, am_wd (i := 275) (by decide +kernel) (by decide +kernel)⟩
abbrev mX4_word : am_Mi := (yX4_word, cX4_word, 1, (some .int))
theorem moX4_word : am_ok mX4_word 0 := ⟨am_wd (i := 280) (by decide +kernel) (by decide +kernel), am_wd (i := 71) (by decide +kernel) (by decide +kernel), ⟨by decide +kernel, by decide +kernel, by decide +kernel⟩, by decide +kernel⟩
theorem mfX4_word : am_mV mX4_word 0 := ⟨moX4_word, am_wd (i := 279) (by decide +kernel) (by decide +kernel), am_wd (i := 2) (by decide +kernel) (by decide +kernel)⟩
abbrev mX4_isWord : am_Mi := (yX4_isWord, cX4_isWord, 4, (some .boolean))
theorem moX4_isWord : am_ok mX4_isWord 1 := ⟨am_wd (i := 285) (by decide +kernel) (by decide +kernel), am_wd (i := 71) (by decide +kernel) (by decide +kernel), ⟨by decide +kernel, by decide +kernel, by decide +kernel⟩, by decide +kernel⟩
theorem mfX4_isWord : am_mV mX4_isWord 1 := ⟨moX4_isWord, am_wd (i := 284) (by decide +kernel) (by decide +kernel), am_wd (i := 3) (by decide +kernel) (by decide +kernel)⟩
abbrev mX4_isDigit : am_Mi := (yX4_isDigit, cX4_isDigit, 1, (some .boolean))
theorem moX4_isDigit : am_ok mX4_isDigit 1 := ⟨am_wd (i := 299) (by decide +kernel) (by decide +kernel), am_wd (i := 71) (by decide +kernel) (by decide +kernel), ⟨by decide +kernel, by decide +kernel, by decide +kernel⟩, by decide +kernel⟩
theorem mfX4_isDigit : am_mS mX4_isDigit 1 := ⟨moX4_isDigit, am_wd (i := 298) (by decide +kernel) (by decide +kernel)⟩
abbrev mX4_number : am_Mi := (yX4_number, cX4_number, 2, (some .int))
theorem moX4_number : am_ok mX4_number 0 := ⟨am_wd (i := 303) (by decide +kernel) (by decide +kernel), am_wd (i := 71) (by decide +kernel) (by decide +kernel), ⟨by decide +kernel, by decide +kernel, by decide +kernel⟩, by decide +kernel⟩
theorem mfX4_number : am_mV mX4_number 0 := ⟨moX4_number, am_wd (i := 302) (by decide +kernel) (by decide +kernel), am_wd (i := 4) (by decide +kernel) (by decide +kernel)⟩
abbrev mX4_sign : am_Mi := (yX4_sign, cX4_sign, 1, (some .int))
theorem moX4_sign : am_ok mX4_sign 1 := ⟨am_wd (i := 306) (by decide +kernel) (by decide +kernel), am_wd (i := 71) (by decide +kernel) (by decide +kernel), ⟨by decide +kernel, by decide +kernel, by decide +kernel⟩, by decide +kernel⟩
theorem mfX4_sign : am_mS mX4_sign 1 := ⟨moX4_sign, am_wd (i := 305) (by decide +kernel) (by decide +kernel)⟩
abbrev mX4_readPart : am_Mi := (yX4_readPart, cX4_readPart, 2, (some .boolean))
theorem moX4_readPart : am_ok mX4_readPart 1 := ⟨am_wd (i := 310) (by decide +kernel) (by decide +kernel), am_wd (i := 71) (by decide +kernel) (by decide +kernel), ⟨by decide +kernel, by decide +kernel, by decide +kernel⟩, by decide +kernel⟩
theorem mfX4_readPart : am_mV mX4_readPart 1 := ⟨moX4_readPart, am_wd (i := 309) (by decide +kernel) (by decide +kernel), am_wd (i := 5) (by decide +kernel) (by decide +kernel)⟩
abbrev mX4_took : am_Mi := (yX4_took, cX4_took, 2, (some .boolean))
theorem moX4_took : am_ok mX4_took 1 := ⟨am_wd (i := 314) (by decide +kernel) (by decide +kernel), am_wd (i := 71) (by decide +kernel) (by decide +kernel), ⟨by decide +kernel, by decide +kernel, by decide +kernel⟩, by decide +kernel⟩
theorem mfX4_took : am_mV mX4_took 1 := ⟨moX4_took, am_wd (i := 313) (by decide +kernel) (by decide +kernel), am_wd (i := 6) (by decide +kernel) (by decide +kernel)⟩
abbrev mX4_readE : am_Mi := (yX4_readE, cX4_readE, 3, (some .boolean))
theorem moX4_readE : am_ok mX4_readE 1 := ⟨am_wd (i := 318) (by decide +kernel) (by decide +kernel), am_wd (i := 71) (by decide +kernel) (by decide +kernel), ⟨by decide +kernel, by decide +kernel, by decide +kernel⟩, by decide +kernel⟩
theorem mfX4_readE : am_mV mX4_readE 1 := ⟨moX4_readE, am_wd (i := 317) (by decide +kernel) (by decide +kernel), am_wd (i := 7) (by decide +kernel) (by decide +kernel)⟩
abbrev mX4_readAnd : am_Mi := (yX4_readAnd, cX4_readAnd, 3, (some .boolean))
theorem moX4_readAnd : am_ok mX4_readAnd 1 := ⟨am_wd (i := 322) (by decide +kernel) (by decide +kernel), am_wd (i := 71) (by decide +kernel) (by decide +kernel), ⟨by decide +kernel, by decide +kernel, by decide +kernel⟩, by decide +kernel⟩
theorem mfX4_readAnd : am_mV mX4_readAnd 1 := ⟨moX4_readAnd, am_wd (i := 321) (by decide +kernel) (by decide +kernel), am_wd (i := 8) (by decide +kernel) (by decide +kernel)⟩
abbrev mX4_readNot : am_Mi := (yX4_readNot, cX4_readNot, 3, (some .boolean))
theorem moX4_readNot : am_ok mX4_readNot 1 := ⟨am_wd (i := 326) (by decide +kernel) (by decide +kernel), am_wd (i := 71) (by decide +kernel) (by decide +kernel), ⟨by decide +kernel, by decide +kernel, by decide +kernel⟩, by decide +kernel⟩
theorem mfX4_readNot : am_mV mX4_readNot 1 := ⟨moX4_readNot, am_wd (i := 325) (by decide +kernel) (by decide +kernel), am_wd (i := 9) (by decide +kernel) (by decide +kernel)⟩
abbrev mX4_step : am_Mi := (yX4_step, cX4_step, 2, none)
theorem moX4_step : am_ok mX4_step 1 := ⟨am_wd (i := 330) (by decide +kernel) (by decide +kernel), am_wd (i := 71) (by decide +kernel) (by decide +kernel), ⟨by decide +kernel, by decide +kernel, by decide +kernel⟩, by decide +kernel⟩
theorem mfX4_step : am_mV mX4_step 1 := ⟨moX4_step, am_wd (i := 329) (by decide +kernel) (by decide +kernel), am_wd (i := 10) (by decide +kernel) (by decide +kernel)⟩
abbrev mX4_readSum : am_Mi := (yX4_readSum, cX4_readSum, 4, (some .boolean))
theorem moX4_readSum : am_ok mX4_readSum 1 := ⟨am_wd (i := 334) (by decide +kernel) (by decide +kernel), am_wd (i := 71) (by decide +kernel) (by decide +kernel), ⟨by decide +kernel, by decide +kernel, by decide +kernel⟩, by decide +kernel⟩
theorem mfX4_readSum : am_mV mX4_readSum 1 := ⟨moX4_readSum, am_wd (i := 333) (by decide +kernel) (by decide +kernel), am_wd (i := 11) (by decide +kernel) (by decide +kernel)⟩
abbrev mX4_readTerm : am_Mi := (yX4_readTerm, cX4_readTerm, 3, (some .boolean))
theorem moX4_readTerm : am_ok mX4_readTerm 1 := ⟨am_wd (i := 338) (by decide +kernel) (by decide +kernel), am_wd (i := 71) (by decide +kernel) (by decide +kernel), ⟨by decide +kernel, by decide +kernel, by decide +kernel⟩, by decide +kernel⟩
theorem mfX4_readTerm : am_mV mX4_readTerm 1 := ⟨moX4_readTerm, am_wd (i := 337) (by decide +kernel) (by decide +kernel), am_wd (i := 12) (by decide +kernel) (by decide +kernel)⟩
abbrev mX4_readOne : am_Mi := (yX4_readOne, cX4_readOne, 2, (some .boolean))
theorem moX4_readOne : am_ok mX4_readOne 1 := ⟨am_wd (i := 342) (by decide +kernel) (by decide +kernel), am_wd (i := 71) (by decide +kernel) (by decide +kernel), ⟨by decide +kernel, by decide +kernel, by decide +kernel⟩, by decide +kernel⟩
theorem mfX4_readOne : am_mV mX4_readOne 1 := ⟨moX4_readOne, am_wd (i := 341) (by decide +kernel) (by decide +kernel), am_wd (i := 13) (by decide +kernel) (by decide +kernel)⟩
abbrev mJ7_copyOf_59c91 : am_Mi := (yJ7_copyOf_59c91, cJ7_copyOf_59c91, 3, (some (.array .int)))
theorem moJ7_copyOf_59c91 : am_ok mJ7_copyOf_59c91 2 := ⟨am_wd (i := 347) (by decide +kernel) (by decide +kernel), am_wd (i := 80) (by decide +kernel) (by decide +kernel), ⟨by decide +kernel, by decide +kernel, by decide +kernel⟩, by decide +kernel⟩
theorem mfJ7_copyOf_59c91 : am_mS mJ7_copyOf_59c91 2 := ⟨moJ7_copyOf_59c91, am_wd (i := 346) (by decide +kernel) (by decide +kernel)⟩
abbrev mJ9_min_7cf53 : am_Mi := (yJ9_min_7cf53, cJ9_min_7cf53, 2, (some .int))
theorem moJ9_min_7cf53 : am_ok mJ9_min_7cf53 2 := ⟨am_wd (i := 357) (by decide +kernel) (by decide +kernel), am_wd (i := 81) (by decide +kernel) (by decide +kernel), ⟨by decide +kernel, by decide +kernel, by decide +kernel⟩, by decide +kernel⟩
theorem mfJ9_min_7cf53 : am_mS mJ9_min_7cf53 2 := ⟨moJ9_min_7cf53, am_wd (i := 356) (by decide +kernel) (by decide +kernel)⟩
abbrev mX5_init : am_Mi := (yX5_init, cX5_init, 4, none)
theorem moX5_init : am_ok mX5_init 3 := ⟨am_wd (i := 363) (by decide +kernel) (by decide +kernel), am_wd (i := 79) (by decide +kernel) (by decide +kernel), ⟨by decide +kernel, by decide +kernel, by decide +kernel⟩, by decide +kernel⟩
theorem mfX5_init : am_mI mX5_init 3 := ⟨moX5_init, am_wd (i := 362) (by decide +kernel) (by decide +kernel), by decide +kernel, rfl⟩
abbrev mX4_clear : am_Mi := (yX4_clear, cX4_clear, 1, none)
theorem moX4_clear : am_ok mX4_clear 0 := ⟨am_wd (i := 382) (by decide +kernel) (by decide +kernel), am_wd (i := 71) (by decide +kernel) (by decide +kernel), ⟨by decide +kernel, by decide +kernel, by decide +kernel⟩, by decide +kernel⟩
theorem mfX4_clear : am_mV mX4_clear 0 := ⟨moX4_clear, am_wd (i := 380) (by decide +kernel) (by decide +kernel), am_wd (i := 381) (by decide +kernel) (by decide +kernel)⟩
abbrev mX6_count : am_Mi := (yX6_count, cX6_count, 2, (some .int))
theorem moX6_count : am_ok mX6_count 1 := ⟨am_wd (i := 435) (by decide +kernel) (by decide +kernel), am_wd (i := 70) (by decide +kernel) (by decide +kernel), ⟨by decide +kernel, by decide +kernel, by decide +kernel⟩, by decide +kernel⟩
theorem mfX6_count : am_mV mX6_count 1 := ⟨moX6_count, am_wd (i := 433) (by decide +kernel) (by decide +kernel), am_wd (i := 434) (by decide +kernel) (by decide +kernel)⟩
abbrev mX6_feed : am_Mi := (yX6_feed, cX6_feed, 7, (some .int))
theorem moX6_feed : am_ok mX6_feed 6 := ⟨am_wd (i := 439) (by decide +kernel) (by decide +kernel), am_wd (i := 70) (by decide +kernel) (by decide +kernel), ⟨by decide +kernel, by decide +kernel, by decide +kernel⟩, by decide +kernel⟩
theorem mfX6_feed : am_mV mX6_feed 6 := ⟨moX6_feed, am_wd (i := 437) (by decide +kernel) (by decide +kernel), am_wd (i := 438) (by decide +kernel) (by decide +kernel)⟩
abbrev mX6_isByte : am_Mi := (yX6_isByte, cX6_isByte, 1, (some .boolean))
theorem moX6_isByte : am_ok mX6_isByte 1 := ⟨am_wd (i := 442) (by decide +kernel) (by decide +kernel), am_wd (i := 70) (by decide +kernel) (by decide +kernel), ⟨by decide +kernel, by decide +kernel, by decide +kernel⟩, by decide +kernel⟩
theorem mfX6_isByte : am_mS mX6_isByte 1 := ⟨moX6_isByte, am_wd (i := 441) (by decide +kernel) (by decide +kernel)⟩
abbrev mX6_text : am_Mi := (yX6_text, cX6_text, 3, (some .int))
theorem moX6_text : am_ok mX6_text 0 := ⟨am_wd (i := 447) (by decide +kernel) (by decide +kernel), am_wd (i := 70) (by decide +kernel) (by decide +kernel), ⟨by decide +kernel, by decide +kernel, by decide +kernel⟩, by decide +kernel⟩
theorem mfX6_text : am_mV mX6_text 0 := ⟨moX6_text, am_wd (i := 445) (by decide +kernel) (by decide +kernel), am_wd (i := 446) (by decide +kernel) (by decide +kernel)⟩
abbrev mX6_force : am_Mi := (yX6_force, cX6_force, 3, (some .int))
theorem moX6_force : am_ok mX6_force 1 := ⟨am_wd (i := 451) (by decide +kernel) (by decide +kernel), am_wd (i := 70) (by decide +kernel) (by decide +kernel), ⟨by decide +kernel, by decide +kernel, by decide +kernel⟩, by decide +kernel⟩
theorem mfX6_force : am_mV mX6_force 1 := ⟨moX6_force, am_wd (i := 449) (by decide +kernel) (by decide +kernel), am_wd (i := 450) (by decide +kernel) (by decide +kernel)⟩
abbrev mX6_asks : am_Mi := (yX6_asks, cX6_asks, 7, (some .int))
theorem moX6_asks : am_ok mX6_asks 5 := ⟨am_wd (i := 455) (by decide +kernel) (by decide +kernel), am_wd (i := 70) (by decide +kernel) (by decide +kernel), ⟨by decide +kernel, by decide +kernel, by decide +kernel⟩, by decide +kernel⟩
theorem mfX6_asks : am_mV mX6_asks 5 := ⟨moX6_asks, am_wd (i := 453) (by decide +kernel) (by decide +kernel), am_wd (i := 454) (by decide +kernel) (by decide +kernel)⟩
abbrev mX6_lawText : am_Mi := (yX6_lawText, cX6_lawText, 1, (some (.object "QuestionsInAnInn$Text")))
theorem moX6_lawText : am_ok mX6_lawText 0 := ⟨am_wd (i := 459) (by decide +kernel) (by decide +kernel), am_wd (i := 70) (by decide +kernel) (by decide +kernel), ⟨by decide +kernel, by decide +kernel, by decide +kernel⟩, by decide +kernel⟩
theorem mfX6_lawText : am_mV mX6_lawText 0 := ⟨moX6_lawText, am_wd (i := 458) (by decide +kernel) (by decide +kernel), am_wd (i := 14) (by decide +kernel) (by decide +kernel)⟩
abbrev mX6_name : am_Mi := (yX6_name, cX6_name, 4, none)
theorem moX6_name : am_ok mX6_name 4 := ⟨am_wd (i := 462) (by decide +kernel) (by decide +kernel), am_wd (i := 70) (by decide +kernel) (by decide +kernel), ⟨by decide +kernel, by decide +kernel, by decide +kernel⟩, by decide +kernel⟩
theorem mfX6_name : am_mS mX6_name 4 := ⟨moX6_name, am_wd (i := 461) (by decide +kernel) (by decide +kernel)⟩
abbrev mX6_nameMore : am_Mi := (yX6_nameMore, cX6_nameMore, 4, none)
theorem moX6_nameMore : am_ok mX6_nameMore 4 := ⟨am_wd (i := 465) (by decide +kernel) (by decide +kernel), am_wd (i := 70) (by decide +kernel) (by decide +kernel), ⟨by decide +kernel, by decide +kernel, by decide +kernel⟩, by decide +kernel⟩
theorem mfX6_nameMore : am_mS mX6_nameMore 4 := ⟨moX6_nameMore, am_wd (i := 464) (by decide +kernel) (by decide +kernel)⟩
abbrev mX5_says : am_Mi := (yX5_says, cX5_says, 3, (some .int))
theorem moX5_says : am_ok mX5_says 2 := ⟨am_wd (i := 469) (by decide +kernel) (by decide +kernel), am_wd (i := 79) (by decide +kernel) (by decide +kernel), ⟨by decide +kernel, by decide +kernel, by decide +kernel⟩, by decide +kernel⟩
theorem mfX5_says : am_mV mX5_says 2 := ⟨moX5_says, am_wd (i := 467) (by decide +kernel) (by decide +kernel), am_wd (i := 468) (by decide +kernel) (by decide +kernel)⟩
abbrev mX5_valueOf : am_Mi := (yX5_valueOf, cX5_valueOf, 7, (some .int))
theorem moX5_valueOf : am_ok mX5_valueOf 3 := ⟨am_wd (i := 473) (by decide +kernel) (by decide +kernel), am_wd (i := 79) (by decide +kernel) (by decide +kernel), ⟨by decide +kernel, by decide +kernel, by decide +kernel⟩, by decide +kernel⟩
theorem mfX5_valueOf : am_mV mX5_valueOf 3 := ⟨moX5_valueOf, am_wd (i := 472) (by decide +kernel) (by decide +kernel), am_wd (i := 15) (by decide +kernel) (by decide +kernel)⟩
abbrev mX5_joined : am_Mi := (yX5_joined, cX5_joined, 3, (some .int))
theorem moX5_joined : am_ok mX5_joined 3 := ⟨am_wd (i := 476) (by decide +kernel) (by decide +kernel), am_wd (i := 79) (by decide +kernel) (by decide +kernel), ⟨by decide +kernel, by decide +kernel, by decide +kernel⟩, by decide +kernel⟩
theorem mfX5_joined : am_mS mX5_joined 3 := ⟨moX5_joined, am_wd (i := 475) (by decide +kernel) (by decide +kernel)⟩
abbrev mX6_bounded : am_Mi := (yX6_bounded, cX6_bounded, 3, (some .int))
theorem moX6_bounded : am_ok mX6_bounded 3 := ⟨am_wd (i := 479) (by decide +kernel) (by decide +kernel), am_wd (i := 70) (by decide +kernel) (by decide +kernel), ⟨by decide +kernel, by decide +kernel, by decide +kernel⟩, by decide +kernel⟩
theorem mfX6_bounded : am_mS mX6_bounded 3 := ⟨moX6_bounded, am_wd (i := 478) (by decide +kernel) (by decide +kernel)⟩
abbrev mJ9_max_7cf53 : am_Mi := (yJ9_max_7cf53, cJ9_max_7cf53, 2, (some .int))
theorem moJ9_max_7cf53 : am_ok mJ9_max_7cf53 2 := ⟨am_wd (i := 483) (by decide +kernel) (by decide +kernel), am_wd (i := 81) (by decide +kernel) (by decide +kernel), ⟨by decide +kernel, by decide +kernel, by decide +kernel⟩, by decide +kernel⟩
theorem mfJ9_max_7cf53 : am_mS mJ9_max_7cf53 2 := ⟨moJ9_max_7cf53, am_wd (i := 482) (by decide +kernel) (by decide +kernel)⟩
abbrev mX6_come : am_Mi := (yX6_come, cX6_come, 4, (some .int))
theorem moX6_come : am_ok mX6_come 3 := ⟨am_wd (i := 487) (by decide +kernel) (by decide +kernel), am_wd (i := 70) (by decide +kernel) (by decide +kernel), ⟨by decide +kernel, by decide +kernel, by decide +kernel⟩, by decide +kernel⟩
theorem mfX6_come : am_mV mX6_come 3 := ⟨moX6_come, am_wd (i := 485) (by decide +kernel) (by decide +kernel), am_wd (i := 486) (by decide +kernel) (by decide +kernel)⟩
abbrev mX6_isTableOrNone : am_Mi := (yX6_isTableOrNone, cX6_isTableOrNone, 1, (some .boolean))
theorem moX6_isTableOrNone : am_ok mX6_isTableOrNone 1 := ⟨am_wd (i := 490) (by decide +kernel) (by decide +kernel), am_wd (i := 70) (by decide +kernel) (by decide +kernel), ⟨by decide +kernel, by decide +kernel, by decide +kernel⟩, by decide +kernel⟩
theorem mfX6_isTableOrNone : am_mS mX6_isTableOrNone 1 := ⟨moX6_isTableOrNone, am_wd (i := 489) (by decide +kernel) (by decide +kernel)⟩
abbrev mX6_isTable : am_Mi := (yX6_isTable, cX6_isTable, 1, (some .boolean))
theorem moX6_isTable : am_ok mX6_isTable 1 := ⟨am_wd (i := 493) (by decide +kernel) (by decide +kernel), am_wd (i := 70) (by decide +kernel) (by decide +kernel), ⟨by decide +kernel, by decide +kernel, by decide +kernel⟩, by decide +kernel⟩
theorem mfX6_isTable : am_mS mX6_isTable 1 := ⟨moX6_isTable, am_wd (i := 492) (by decide +kernel) (by decide +kernel)⟩
abbrev mX1_init : am_Mi := (yX1_init, cX1_init, 5, none)
theorem moX1_init : am_ok mX1_init 4 := ⟨am_wd (i := 497) (by decide +kernel) (by decide +kernel), am_wd (i := 84) (by decide +kernel) (by decide +kernel), ⟨by decide +kernel, by decide +kernel, by decide +kernel⟩, by decide +kernel⟩
theorem mfX1_init : am_mI mX1_init 4 := ⟨moX1_init, am_wd (i := 496) (by decide +kernel) (by decide +kernel), by decide +kernel, rfl⟩
abbrev mX6_learn : am_Mi := (yX6_learn, cX6_learn, 6, (some .int))
theorem moX6_learn : am_ok mX6_learn 3 := ⟨am_wd (i := 522) (by decide +kernel) (by decide +kernel), am_wd (i := 70) (by decide +kernel) (by decide +kernel), ⟨by decide +kernel, by decide +kernel, by decide +kernel⟩, by decide +kernel⟩
theorem mfX6_learn : am_mV mX6_learn 3 := ⟨moX6_learn, am_wd (i := 520) (by decide +kernel) (by decide +kernel), am_wd (i := 521) (by decide +kernel) (by decide +kernel)⟩
abbrev mX6_personAt : am_Mi := (yX6_personAt, cX6_personAt, 2, (some (.object "QuestionsInAnInn$Guest")))
theorem moX6_personAt : am_ok mX6_personAt 1 := ⟨am_wd (i := 526) (by decide +kernel) (by decide +kernel), am_wd (i := 70) (by decide +kernel) (by decide +kernel), ⟨by decide +kernel, by decide +kernel, by decide +kernel⟩, by decide +kernel⟩
theorem mfX6_personAt : am_mV mX6_personAt 1 := ⟨moX6_personAt, am_wd (i := 525) (by decide +kernel) (by decide +kernel), am_wd (i := 16) (by decide +kernel) (by decide +kernel)⟩
abbrev mX6_isTopic : am_Mi := (yX6_isTopic, cX6_isTopic, 1, (some .boolean))
theorem moX6_isTopic : am_ok mX6_isTopic 1 := ⟨am_wd (i := 529) (by decide +kernel) (by decide +kernel), am_wd (i := 70) (by decide +kernel) (by decide +kernel), ⟨by decide +kernel, by decide +kernel, by decide +kernel⟩, by decide +kernel⟩
theorem mfX6_isTopic : am_mS mX6_isTopic 1 := ⟨moX6_isTopic, am_wd (i := 528) (by decide +kernel) (by decide +kernel)⟩
abbrev mX1_deepAt : am_Mi := (yX1_deepAt, cX1_deepAt, 2, (some .int))
theorem moX1_deepAt : am_ok mX1_deepAt 1 := ⟨am_wd (i := 533) (by decide +kernel) (by decide +kernel), am_wd (i := 84) (by decide +kernel) (by decide +kernel), ⟨by decide +kernel, by decide +kernel, by decide +kernel⟩, by decide +kernel⟩
theorem mfX1_deepAt : am_mV mX1_deepAt 1 := ⟨moX1_deepAt, am_wd (i := 531) (by decide +kernel) (by decide +kernel), am_wd (i := 532) (by decide +kernel) (by decide +kernel)⟩
abbrev mX1_becomeDeep : am_Mi := (yX1_becomeDeep, cX1_becomeDeep, 3, none)
theorem moX1_becomeDeep : am_ok mX1_becomeDeep 2 := ⟨am_wd (i := 538) (by decide +kernel) (by decide +kernel), am_wd (i := 84) (by decide +kernel) (by decide +kernel), ⟨by decide +kernel, by decide +kernel, by decide +kernel⟩, by decide +kernel⟩
theorem mfX1_becomeDeep : am_mV mX1_becomeDeep 2 := ⟨moX1_becomeDeep, am_wd (i := 536) (by decide +kernel) (by decide +kernel), am_wd (i := 537) (by decide +kernel) (by decide +kernel)⟩
abbrev mX6_sit : am_Mi := (yX6_sit, cX6_sit, 5, (some .int))
theorem moX6_sit : am_ok mX6_sit 2 := ⟨am_wd (i := 543) (by decide +kernel) (by decide +kernel), am_wd (i := 70) (by decide +kernel) (by decide +kernel), ⟨by decide +kernel, by decide +kernel, by decide +kernel⟩, by decide +kernel⟩
theorem mfX6_sit : am_mV mX6_sit 2 := ⟨moX6_sit, am_wd (i := 541) (by decide +kernel) (by decide +kernel), am_wd (i := 542) (by decide +kernel) (by decide +kernel)⟩
abbrev mX6_told : am_Mi := (yX6_told, cX6_told, 4, (some .int))
theorem moX6_told : am_ok mX6_told 2 := ⟨am_wd (i := 547) (by decide +kernel) (by decide +kernel), am_wd (i := 70) (by decide +kernel) (by decide +kernel), ⟨by decide +kernel, by decide +kernel, by decide +kernel⟩, by decide +kernel⟩
theorem mfX6_told : am_mV mX6_told 2 := ⟨moX6_told, am_wd (i := 545) (by decide +kernel) (by decide +kernel), am_wd (i := 546) (by decide +kernel) (by decide +kernel)⟩
abbrev mX6_question : am_Mi := (yX6_question, cX6_question, 3, (some .int))
theorem moX6_question : am_ok mX6_question 2 := ⟨am_wd (i := 551) (by decide +kernel) (by decide +kernel), am_wd (i := 70) (by decide +kernel) (by decide +kernel), ⟨by decide +kernel, by decide +kernel, by decide +kernel⟩, by decide +kernel⟩
theorem mfX6_question : am_mV mX6_question 2 := ⟨moX6_question, am_wd (i := 549) (by decide +kernel) (by decide +kernel), am_wd (i := 550) (by decide +kernel) (by decide +kernel)⟩
abbrev mX6_askedOf : am_Mi := (yX6_askedOf, cX6_askedOf, 3, (some .int))
theorem moX6_askedOf : am_ok mX6_askedOf 2 := ⟨am_wd (i := 555) (by decide +kernel) (by decide +kernel), am_wd (i := 70) (by decide +kernel) (by decide +kernel), ⟨by decide +kernel, by decide +kernel, by decide +kernel⟩, by decide +kernel⟩
theorem mfX6_askedOf : am_mV mX6_askedOf 2 := ⟨moX6_askedOf, am_wd (i := 553) (by decide +kernel) (by decide +kernel), am_wd (i := 554) (by decide +kernel) (by decide +kernel)⟩
abbrev mX6_isQuestion : am_Mi := (yX6_isQuestion, cX6_isQuestion, 2, (some .boolean))
theorem moX6_isQuestion : am_ok mX6_isQuestion 1 := ⟨am_wd (i := 559) (by decide +kernel) (by decide +kernel), am_wd (i := 70) (by decide +kernel) (by decide +kernel), ⟨by decide +kernel, by decide +kernel, by decide +kernel⟩, by decide +kernel⟩
theorem mfX6_isQuestion : am_mV mX6_isQuestion 1 := ⟨moX6_isQuestion, am_wd (i := 558) (by decide +kernel) (by decide +kernel), am_wd (i := 17) (by decide +kernel) (by decide +kernel)⟩
abbrev mX6_isZeroOrOne : am_Mi := (yX6_isZeroOrOne, cX6_isZeroOrOne, 1, (some .boolean))
theorem moX6_isZeroOrOne : am_ok mX6_isZeroOrOne 1 := ⟨am_wd (i := 562) (by decide +kernel) (by decide +kernel), am_wd (i := 70) (by decide +kernel) (by decide +kernel), ⟨by decide +kernel, by decide +kernel, by decide +kernel⟩, by decide +kernel⟩
theorem mfX6_isZeroOrOne : am_mS mX6_isZeroOrOne 1 := ⟨moX6_isZeroOrOne, am_wd (i := 561) (by decide +kernel) (by decide +kernel)⟩
abbrev mX6_lay : am_Mi := (yX6_lay, cX6_lay, 4, (some .int))
theorem moX6_lay : am_ok mX6_lay 2 := ⟨am_wd (i := 566) (by decide +kernel) (by decide +kernel), am_wd (i := 70) (by decide +kernel) (by decide +kernel), ⟨by decide +kernel, by decide +kernel, by decide +kernel⟩, by decide +kernel⟩
theorem mfX6_lay : am_mV mX6_lay 2 := ⟨moX6_lay, am_wd (i := 564) (by decide +kernel) (by decide +kernel), am_wd (i := 565) (by decide +kernel) (by decide +kernel)⟩
abbrev mX6_laid : am_Mi := (yX6_laid, cX6_laid, 2, (some .int))
theorem moX6_laid : am_ok mX6_laid 1 := ⟨am_wd (i := 570) (by decide +kernel) (by decide +kernel), am_wd (i := 70) (by decide +kernel) (by decide +kernel), ⟨by decide +kernel, by decide +kernel, by decide +kernel⟩, by decide +kernel⟩
theorem mfX6_laid : am_mV mX6_laid 1 := ⟨moX6_laid, am_wd (i := 568) (by decide +kernel) (by decide +kernel), am_wd (i := 569) (by decide +kernel) (by decide +kernel)⟩
abbrev mX6_answer : am_Mi := (yX6_answer, cX6_answer, 5, (some .int))
theorem moX6_answer : am_ok mX6_answer 3 := ⟨am_wd (i := 574) (by decide +kernel) (by decide +kernel), am_wd (i := 70) (by decide +kernel) (by decide +kernel), ⟨by decide +kernel, by decide +kernel, by decide +kernel⟩, by decide +kernel⟩
theorem mfX6_answer : am_mV mX6_answer 3 := ⟨moX6_answer, am_wd (i := 572) (by decide +kernel) (by decide +kernel), am_wd (i := 573) (by decide +kernel) (by decide +kernel)⟩
abbrev mX6_reckon : am_Mi := (yX6_reckon, cX6_reckon, 2, none)
theorem moX6_reckon : am_ok mX6_reckon 0 := ⟨am_wd (i := 578) (by decide +kernel) (by decide +kernel), am_wd (i := 70) (by decide +kernel) (by decide +kernel), ⟨by decide +kernel, by decide +kernel, by decide +kernel⟩, by decide +kernel⟩
theorem mfX6_reckon : am_mV mX6_reckon 0 := ⟨moX6_reckon, am_wd (i := 577) (by decide +kernel) (by decide +kernel), am_wd (i := 18) (by decide +kernel) (by decide +kernel)⟩
abbrev mX0_reckonPoints : am_Mi := (yX0_reckonPoints, cX0_reckonPoints, 6, none)
theorem moX0_reckonPoints : am_ok mX0_reckonPoints 4 := ⟨am_wd (i := 582) (by decide +kernel) (by decide +kernel), am_wd (i := 74) (by decide +kernel) (by decide +kernel), ⟨by decide +kernel, by decide +kernel, by decide +kernel⟩, by decide +kernel⟩
theorem mfX0_reckonPoints : am_mV mX0_reckonPoints 4 := ⟨moX0_reckonPoints, am_wd (i := 580) (by decide +kernel) (by decide +kernel), am_wd (i := 581) (by decide +kernel) (by decide +kernel)⟩
abbrev mX0_reckonPerson : am_Mi := (yX0_reckonPerson, cX0_reckonPerson, 8, none)
theorem moX0_reckonPerson : am_ok mX0_reckonPerson 5 := ⟨am_wd (i := 591) (by decide +kernel) (by decide +kernel), am_wd (i := 74) (by decide +kernel) (by decide +kernel), ⟨by decide +kernel, by decide +kernel, by decide +kernel⟩, by decide +kernel⟩
theorem mfX0_reckonPerson : am_mV mX0_reckonPerson 5 := ⟨moX0_reckonPerson, am_wd (i := 589) (by decide +kernel) (by decide +kernel), am_wd (i := 590) (by decide +kernel) (by decide +kernel)⟩
abbrev mX1_knows : am_Mi := (yX1_knows, cX1_knows, 4, (some .int))
theorem moX1_knows : am_ok mX1_knows 2 := ⟨am_wd (i := 595) (by decide +kernel) (by decide +kernel), am_wd (i := 84) (by decide +kernel) (by decide +kernel), ⟨by decide +kernel, by decide +kernel, by decide +kernel⟩, by decide +kernel⟩
theorem mfX1_knows : am_mV mX1_knows 2 := ⟨moX1_knows, am_wd (i := 593) (by decide +kernel) (by decide +kernel), am_wd (i := 594) (by decide +kernel) (by decide +kernel)⟩
abbrev mX1_isOf : am_Mi := (yX1_isOf, cX1_isOf, 4, (some .boolean))
theorem moX1_isOf : am_ok mX1_isOf 1 := ⟨am_wd (i := 600) (by decide +kernel) (by decide +kernel), am_wd (i := 84) (by decide +kernel) (by decide +kernel), ⟨by decide +kernel, by decide +kernel, by decide +kernel⟩, by decide +kernel⟩
theorem mfX1_isOf : am_mV mX1_isOf 1 := ⟨moX1_isOf, am_wd (i := 598) (by decide +kernel) (by decide +kernel), am_wd (i := 599) (by decide +kernel) (by decide +kernel)⟩
abbrev mX1_isOwn : am_Mi := (yX1_isOwn, cX1_isOwn, 2, (some .boolean))
theorem moX1_isOwn : am_ok mX1_isOwn 1 := ⟨am_wd (i := 606) (by decide +kernel) (by decide +kernel), am_wd (i := 84) (by decide +kernel) (by decide +kernel), ⟨by decide +kernel, by decide +kernel, by decide +kernel⟩, by decide +kernel⟩
theorem mfX1_isOwn : am_mV mX1_isOwn 1 := ⟨moX1_isOwn, am_wd (i := 605) (by decide +kernel) (by decide +kernel), am_wd (i := 19) (by decide +kernel) (by decide +kernel)⟩
abbrev mX1_loudAt : am_Mi := (yX1_loudAt, cX1_loudAt, 2, (some .int))
theorem moX1_loudAt : am_ok mX1_loudAt 1 := ⟨am_wd (i := 610) (by decide +kernel) (by decide +kernel), am_wd (i := 84) (by decide +kernel) (by decide +kernel), ⟨by decide +kernel, by decide +kernel, by decide +kernel⟩, by decide +kernel⟩
theorem mfX1_loudAt : am_mV mX1_loudAt 1 := ⟨moX1_loudAt, am_wd (i := 608) (by decide +kernel) (by decide +kernel), am_wd (i := 609) (by decide +kernel) (by decide +kernel)⟩
abbrev mX6_findRights : am_Mi := (yX6_findRights, cX6_findRights, 2, none)
theorem moX6_findRights : am_ok mX6_findRights 0 := ⟨am_wd (i := 614) (by decide +kernel) (by decide +kernel), am_wd (i := 70) (by decide +kernel) (by decide +kernel), ⟨by decide +kernel, by decide +kernel, by decide +kernel⟩, by decide +kernel⟩
theorem mfX6_findRights : am_mV mX6_findRights 0 := ⟨moX6_findRights, am_wd (i := 613) (by decide +kernel) (by decide +kernel), am_wd (i := 20) (by decide +kernel) (by decide +kernel)⟩
abbrev mX6_seatedAt : am_Mi := (yX6_seatedAt, cX6_seatedAt, 5, (some .int))
theorem moX6_seatedAt : am_ok mX6_seatedAt 1 := ⟨am_wd (i := 618) (by decide +kernel) (by decide +kernel), am_wd (i := 70) (by decide +kernel) (by decide +kernel), ⟨by decide +kernel, by decide +kernel, by decide +kernel⟩, by decide +kernel⟩
theorem mfX6_seatedAt : am_mV mX6_seatedAt 1 := ⟨moX6_seatedAt, am_wd (i := 617) (by decide +kernel) (by decide +kernel), am_wd (i := 21) (by decide +kernel) (by decide +kernel)⟩
abbrev mX0_rightOf : am_Mi := (yX0_rightOf, cX0_rightOf, 5, (some .int))
theorem moX0_rightOf : am_ok mX0_rightOf 1 := ⟨am_wd (i := 622) (by decide +kernel) (by decide +kernel), am_wd (i := 74) (by decide +kernel) (by decide +kernel), ⟨by decide +kernel, by decide +kernel, by decide +kernel⟩, by decide +kernel⟩
theorem mfX0_rightOf : am_mV mX0_rightOf 1 := ⟨moX0_rightOf, am_wd (i := 620) (by decide +kernel) (by decide +kernel), am_wd (i := 621) (by decide +kernel) (by decide +kernel)⟩
abbrev mX0_believed : am_Mi := (yX0_believed, cX0_believed, 7, (some .int))
theorem moX0_believed : am_ok mX0_believed 2 := ⟨am_wd (i := 626) (by decide +kernel) (by decide +kernel), am_wd (i := 74) (by decide +kernel) (by decide +kernel), ⟨by decide +kernel, by decide +kernel, by decide +kernel⟩, by decide +kernel⟩
theorem mfX0_believed : am_mV mX0_believed 2 := ⟨moX0_believed, am_wd (i := 624) (by decide +kernel) (by decide +kernel), am_wd (i := 625) (by decide +kernel) (by decide +kernel)⟩
abbrev mX0_ableOf : am_Mi := (yX0_ableOf, cX0_ableOf, 3, (some .int))
theorem moX0_ableOf : am_ok mX0_ableOf 2 := ⟨am_wd (i := 631) (by decide +kernel) (by decide +kernel), am_wd (i := 74) (by decide +kernel) (by decide +kernel), ⟨by decide +kernel, by decide +kernel, by decide +kernel⟩, by decide +kernel⟩
theorem mfX0_ableOf : am_mV mX0_ableOf 2 := ⟨moX0_ableOf, am_wd (i := 629) (by decide +kernel) (by decide +kernel), am_wd (i := 630) (by decide +kernel) (by decide +kernel)⟩
abbrev mX6_score : am_Mi := (yX6_score, cX6_score, 3, (some .int))
theorem moX6_score : am_ok mX6_score 2 := ⟨am_wd (i := 635) (by decide +kernel) (by decide +kernel), am_wd (i := 70) (by decide +kernel) (by decide +kernel), ⟨by decide +kernel, by decide +kernel, by decide +kernel⟩, by decide +kernel⟩
theorem mfX6_score : am_mV mX6_score 2 := ⟨moX6_score, am_wd (i := 633) (by decide +kernel) (by decide +kernel), am_wd (i := 634) (by decide +kernel) (by decide +kernel)⟩
abbrev mX6_scoreNow : am_Mi := (yX6_scoreNow, cX6_scoreNow, 2, (some .int))
theorem moX6_scoreNow : am_ok mX6_scoreNow 1 := ⟨am_wd (i := 639) (by decide +kernel) (by decide +kernel), am_wd (i := 70) (by decide +kernel) (by decide +kernel), ⟨by decide +kernel, by decide +kernel, by decide +kernel⟩, by decide +kernel⟩
theorem mfX6_scoreNow : am_mV mX6_scoreNow 1 := ⟨moX6_scoreNow, am_wd (i := 638) (by decide +kernel) (by decide +kernel), am_wd (i := 22) (by decide +kernel) (by decide +kernel)⟩
abbrev mX0_worth : am_Mi := (yX0_worth, cX0_worth, 5, (some .int))
theorem moX0_worth : am_ok mX0_worth 2 := ⟨am_wd (i := 643) (by decide +kernel) (by decide +kernel), am_wd (i := 74) (by decide +kernel) (by decide +kernel), ⟨by decide +kernel, by decide +kernel, by decide +kernel⟩, by decide +kernel⟩
theorem mfX0_worth : am_mV mX0_worth 2 := ⟨moX0_worth, am_wd (i := 641) (by decide +kernel) (by decide +kernel), am_wd (i := 642) (by decide +kernel) (by decide +kernel)⟩
abbrev mX0_coveredBy : am_Mi := (yX0_coveredBy, cX0_coveredBy, 4, (some .int))
theorem moX0_coveredBy : am_ok mX0_coveredBy 1 := ⟨am_wd (i := 647) (by decide +kernel) (by decide +kernel), am_wd (i := 74) (by decide +kernel) (by decide +kernel), ⟨by decide +kernel, by decide +kernel, by decide +kernel⟩, by decide +kernel⟩
theorem mfX0_coveredBy : am_mV mX0_coveredBy 1 := ⟨moX0_coveredBy, am_wd (i := 645) (by decide +kernel) (by decide +kernel), am_wd (i := 646) (by decide +kernel) (by decide +kernel)⟩
abbrev mX6_evening : am_Mi := (yX6_evening, cX6_evening, 2, (some .int))
theorem moX6_evening : am_ok mX6_evening 1 := ⟨am_wd (i := 652) (by decide +kernel) (by decide +kernel), am_wd (i := 70) (by decide +kernel) (by decide +kernel), ⟨by decide +kernel, by decide +kernel, by decide +kernel⟩, by decide +kernel⟩
theorem mfX6_evening : am_mV mX6_evening 1 := ⟨moX6_evening, am_wd (i := 650) (by decide +kernel) (by decide +kernel), am_wd (i := 651) (by decide +kernel) (by decide +kernel)⟩
abbrev mX6_winner : am_Mi := (yX6_winner, cX6_winner, 3, (some .int))
theorem moX6_winner : am_ok mX6_winner 0 := ⟨am_wd (i := 656) (by decide +kernel) (by decide +kernel), am_wd (i := 70) (by decide +kernel) (by decide +kernel), ⟨by decide +kernel, by decide +kernel, by decide +kernel⟩, by decide +kernel⟩
theorem mfX6_winner : am_mV mX6_winner 0 := ⟨moX6_winner, am_wd (i := 655) (by decide +kernel) (by decide +kernel), am_wd (i := 23) (by decide +kernel) (by decide +kernel)⟩
abbrev mX6_apartBy : am_Mi := (yX6_apartBy, cX6_apartBy, 6, (some .int))
theorem moX6_apartBy : am_ok mX6_apartBy 1 := ⟨am_wd (i := 660) (by decide +kernel) (by decide +kernel), am_wd (i := 70) (by decide +kernel) (by decide +kernel), ⟨by decide +kernel, by decide +kernel, by decide +kernel⟩, by decide +kernel⟩
theorem mfX6_apartBy : am_mV mX6_apartBy 1 := ⟨moX6_apartBy, am_wd (i := 659) (by decide +kernel) (by decide +kernel), am_wd (i := 24) (by decide +kernel) (by decide +kernel)⟩
abbrev mX6_best : am_Mi := (yX6_best, cX6_best, 7, (some .int))
theorem moX6_best : am_ok mX6_best 2 := ⟨am_wd (i := 664) (by decide +kernel) (by decide +kernel), am_wd (i := 70) (by decide +kernel) (by decide +kernel), ⟨by decide +kernel, by decide +kernel, by decide +kernel⟩, by decide +kernel⟩
theorem mfX6_best : am_mV mX6_best 2 := ⟨moX6_best, am_wd (i := 662) (by decide +kernel) (by decide +kernel), am_wd (i := 663) (by decide +kernel) (by decide +kernel)⟩
abbrev mX6_join : am_Mi := (yX6_join, cX6_join, 8, (some .int))
theorem moX6_join : am_ok mX6_join 2 := ⟨am_wd (i := 668) (by decide +kernel) (by decide +kernel), am_wd (i := 70) (by decide +kernel) (by decide +kernel), ⟨by decide +kernel, by decide +kernel, by decide +kernel⟩, by decide +kernel⟩
theorem mfX6_join : am_mV mX6_join 2 := ⟨moX6_join, am_wd (i := 666) (by decide +kernel) (by decide +kernel), am_wd (i := 667) (by decide +kernel) (by decide +kernel)⟩
abbrev mX6_scoreIf : am_Mi := (yX6_scoreIf, cX6_scoreIf, 3, (some .int))
theorem moX6_scoreIf : am_ok mX6_scoreIf 2 := ⟨am_wd (i := 672) (by decide +kernel) (by decide +kernel), am_wd (i := 70) (by decide +kernel) (by decide +kernel), ⟨by decide +kernel, by decide +kernel, by decide +kernel⟩, by decide +kernel⟩
theorem mfX6_scoreIf : am_mV mX6_scoreIf 2 := ⟨moX6_scoreIf, am_wd (i := 671) (by decide +kernel) (by decide +kernel), am_wd (i := 25) (by decide +kernel) (by decide +kernel)⟩
abbrev mX6_leave : am_Mi := (yX6_leave, cX6_leave, 8, (some .int))
theorem moX6_leave : am_ok mX6_leave 2 := ⟨am_wd (i := 676) (by decide +kernel) (by decide +kernel), am_wd (i := 70) (by decide +kernel) (by decide +kernel), ⟨by decide +kernel, by decide +kernel, by decide +kernel⟩, by decide +kernel⟩
theorem mfX6_leave : am_mV mX6_leave 2 := ⟨moX6_leave, am_wd (i := 674) (by decide +kernel) (by decide +kernel), am_wd (i := 675) (by decide +kernel) (by decide +kernel)⟩
abbrev mX6_cover : am_Mi := (yX6_cover, cX6_cover, 7, (some .int))
theorem moX6_cover : am_ok mX6_cover 1 := ⟨am_wd (i := 680) (by decide +kernel) (by decide +kernel), am_wd (i := 70) (by decide +kernel) (by decide +kernel), ⟨by decide +kernel, by decide +kernel, by decide +kernel⟩, by decide +kernel⟩
theorem mfX6_cover : am_mV mX6_cover 1 := ⟨moX6_cover, am_wd (i := 678) (by decide +kernel) (by decide +kernel), am_wd (i := 679) (by decide +kernel) (by decide +kernel)⟩
abbrev mJ6_bitCount_0f7a4 : am_Mi := (yJ6_bitCount_0f7a4, cJ6_bitCount_0f7a4, 1, (some .int))
theorem moJ6_bitCount_0f7a4 : am_ok mJ6_bitCount_0f7a4 1 := ⟨am_wd (i := 683) (by decide +kernel) (by decide +kernel), am_wd (i := 85) (by decide +kernel) (by decide +kernel), ⟨by decide +kernel, by decide +kernel, by decide +kernel⟩, by decide +kernel⟩
theorem mfJ6_bitCount_0f7a4 : am_mS mJ6_bitCount_0f7a4 1 := ⟨moJ6_bitCount_0f7a4, am_wd (i := 682) (by decide +kernel) (by decide +kernel)⟩
abbrev mX6_hire : am_Mi := (yX6_hire, cX6_hire, 13, (some .int))
theorem moX6_hire : am_ok mX6_hire 3 := ⟨am_wd (i := 690) (by decide +kernel) (by decide +kernel), am_wd (i := 70) (by decide +kernel) (by decide +kernel), ⟨by decide +kernel, by decide +kernel, by decide +kernel⟩, by decide +kernel⟩
theorem mfX6_hire : am_mV mX6_hire 3 := ⟨moX6_hire, am_wd (i := 688) (by decide +kernel) (by decide +kernel), am_wd (i := 689) (by decide +kernel) (by decide +kernel)⟩
abbrev mX6_costOf : am_Mi := (yX6_costOf, cX6_costOf, 5, (some .int))
theorem moX6_costOf : am_ok mX6_costOf 2 := ⟨am_wd (i := 694) (by decide +kernel) (by decide +kernel), am_wd (i := 70) (by decide +kernel) (by decide +kernel), ⟨by decide +kernel, by decide +kernel, by decide +kernel⟩, by decide +kernel⟩
theorem mfX6_costOf : am_mV mX6_costOf 2 := ⟨moX6_costOf, am_wd (i := 693) (by decide +kernel) (by decide +kernel), am_wd (i := 26) (by decide +kernel) (by decide +kernel)⟩
abbrev mX1_deepestTopic : am_Mi := (yX1_deepestTopic, cX1_deepestTopic, 3, (some .int))
theorem moX1_deepestTopic : am_ok mX1_deepestTopic 0 := ⟨am_wd (i := 698) (by decide +kernel) (by decide +kernel), am_wd (i := 84) (by decide +kernel) (by decide +kernel), ⟨by decide +kernel, by decide +kernel, by decide +kernel⟩, by decide +kernel⟩
theorem mfX1_deepestTopic : am_mV mX1_deepestTopic 0 := ⟨moX1_deepestTopic, am_wd (i := 696) (by decide +kernel) (by decide +kernel), am_wd (i := 697) (by decide +kernel) (by decide +kernel)⟩
abbrev mX6_price : am_Mi := (yX6_price, cX6_price, 3, (some .int))
theorem moX6_price : am_ok mX6_price 1 := ⟨am_wd (i := 702) (by decide +kernel) (by decide +kernel), am_wd (i := 70) (by decide +kernel) (by decide +kernel), ⟨by decide +kernel, by decide +kernel, by decide +kernel⟩, by decide +kernel⟩
theorem mfX6_price : am_mV mX6_price 1 := ⟨moX6_price, am_wd (i := 700) (by decide +kernel) (by decide +kernel), am_wd (i := 701) (by decide +kernel) (by decide +kernel)⟩
abbrev mX6_close : am_Mi := (yX6_close, cX6_close, 7, (some .int))
theorem moX6_close : am_ok mX6_close 2 := ⟨am_wd (i := 706) (by decide +kernel) (by decide +kernel), am_wd (i := 70) (by decide +kernel) (by decide +kernel), ⟨by decide +kernel, by decide +kernel, by decide +kernel⟩, by decide +kernel⟩
theorem mfX6_close : am_mV mX6_close 2 := ⟨moX6_close, am_wd (i := 704) (by decide +kernel) (by decide +kernel), am_wd (i := 705) (by decide +kernel) (by decide +kernel)⟩
abbrev mX6_good : am_Mi := (yX6_good, cX6_good, 6, (some .int))
theorem moX6_good : am_ok mX6_good 1 := ⟨am_wd (i := 710) (by decide +kernel) (by decide +kernel), am_wd (i := 70) (by decide +kernel) (by decide +kernel), ⟨by decide +kernel, by decide +kernel, by decide +kernel⟩, by decide +kernel⟩
theorem mfX6_good : am_mV mX6_good 1 := ⟨moX6_good, am_wd (i := 708) (by decide +kernel) (by decide +kernel), am_wd (i := 709) (by decide +kernel) (by decide +kernel)⟩
abbrev mJ6_compare_7cf53 : am_Mi := (yJ6_compare_7cf53, cJ6_compare_7cf53, 2, (some .int))
theorem moJ6_compare_7cf53 : am_ok mJ6_compare_7cf53 2 := ⟨am_wd (i := 714) (by decide +kernel) (by decide +kernel), am_wd (i := 85) (by decide +kernel) (by decide +kernel), ⟨by decide +kernel, by decide +kernel, by decide +kernel⟩, by decide +kernel⟩
theorem mfJ6_compare_7cf53 : am_mS mJ6_compare_7cf53 2 := ⟨moJ6_compare_7cf53, am_wd (i := 713) (by decide +kernel) (by decide +kernel)⟩
abbrev mX6_alike : am_Mi := (yX6_alike, cX6_alike, 7, (some .long))
theorem moX6_alike : am_ok mX6_alike 3 := ⟨am_wd (i := 718) (by decide +kernel) (by decide +kernel), am_wd (i := 70) (by decide +kernel) (by decide +kernel), ⟨by decide +kernel, by decide +kernel, by decide +kernel⟩, by decide +kernel⟩
theorem mfX6_alike : am_mV mX6_alike 3 := ⟨moX6_alike, am_wd (i := 716) (by decide +kernel) (by decide +kernel), am_wd (i := 717) (by decide +kernel) (by decide +kernel)⟩
abbrev mX6_lowest : am_Mi := (yX6_lowest, cX6_lowest, 7, (some .long))
theorem moX6_lowest : am_ok mX6_lowest 3 := ⟨am_wd (i := 722) (by decide +kernel) (by decide +kernel), am_wd (i := 70) (by decide +kernel) (by decide +kernel), ⟨by decide +kernel, by decide +kernel, by decide +kernel⟩, by decide +kernel⟩
theorem mfX6_lowest : am_mS mX6_lowest 3 := ⟨moX6_lowest, am_wd (i := 721) (by decide +kernel) (by decide +kernel)⟩
abbrev mX6_change : am_Mi := (yX6_change, cX6_change, 7, (some .int))
theorem moX6_change : am_ok mX6_change 1 := ⟨am_wd (i := 726) (by decide +kernel) (by decide +kernel), am_wd (i := 70) (by decide +kernel) (by decide +kernel), ⟨by decide +kernel, by decide +kernel, by decide +kernel⟩, by decide +kernel⟩
theorem mfX6_change : am_mV mX6_change 1 := ⟨moX6_change, am_wd (i := 724) (by decide +kernel) (by decide +kernel), am_wd (i := 725) (by decide +kernel) (by decide +kernel)⟩
abbrev mX6_apartIfChanged : am_Mi := (yX6_apartIfChanged, cX6_apartIfChanged, 4, (some .int))
theorem moX6_apartIfChanged : am_ok mX6_apartIfChanged 2 := ⟨am_wd (i := 730) (by decide +kernel) (by decide +kernel), am_wd (i := 70) (by decide +kernel) (by decide +kernel), ⟨by decide +kernel, by decide +kernel, by decide +kernel⟩, by decide +kernel⟩
theorem mfX6_apartIfChanged : am_mV mX6_apartIfChanged 2 := ⟨moX6_apartIfChanged, am_wd (i := 729) (by decide +kernel) (by decide +kernel), am_wd (i := 27) (by decide +kernel) (by decide +kernel)⟩
abbrev mX6_changePlaces : am_Mi := (yX6_changePlaces, cX6_changePlaces, 3, none)
theorem moX6_changePlaces : am_ok mX6_changePlaces 2 := ⟨am_wd (i := 733) (by decide +kernel) (by decide +kernel), am_wd (i := 70) (by decide +kernel) (by decide +kernel), ⟨by decide +kernel, by decide +kernel, by decide +kernel⟩, by decide +kernel⟩
theorem mfX6_changePlaces : am_mS mX6_changePlaces 2 := ⟨moX6_changePlaces, am_wd (i := 732) (by decide +kernel) (by decide +kernel)⟩
abbrev mX6_judge : am_Mi := (yX6_judge, cX6_judge, 4, (some .int))
theorem moX6_judge : am_ok mX6_judge 2 := ⟨am_wd (i := 737) (by decide +kernel) (by decide +kernel), am_wd (i := 70) (by decide +kernel) (by decide +kernel), ⟨by decide +kernel, by decide +kernel, by decide +kernel⟩, by decide +kernel⟩
theorem mfX6_judge : am_mV mX6_judge 2 := ⟨moX6_judge, am_wd (i := 735) (by decide +kernel) (by decide +kernel), am_wd (i := 736) (by decide +kernel) (by decide +kernel)⟩
abbrev mX6_refusalOfTold : am_Mi := (yX6_refusalOfTold, cX6_refusalOfTold, 3, (some .int))
theorem moX6_refusalOfTold : am_ok mX6_refusalOfTold 1 := ⟨am_wd (i := 741) (by decide +kernel) (by decide +kernel), am_wd (i := 70) (by decide +kernel) (by decide +kernel), ⟨by decide +kernel, by decide +kernel, by decide +kernel⟩, by decide +kernel⟩
theorem mfX6_refusalOfTold : am_mV mX6_refusalOfTold 1 := ⟨moX6_refusalOfTold, am_wd (i := 740) (by decide +kernel) (by decide +kernel), am_wd (i := 28) (by decide +kernel) (by decide +kernel)⟩
abbrev mX6_sheetAt : am_Mi := (yX6_sheetAt, cX6_sheetAt, 2, (some (.object "QuestionsInAnInn$Sheet")))
theorem moX6_sheetAt : am_ok mX6_sheetAt 1 := ⟨am_wd (i := 745) (by decide +kernel) (by decide +kernel), am_wd (i := 70) (by decide +kernel) (by decide +kernel), ⟨by decide +kernel, by decide +kernel, by decide +kernel⟩, by decide +kernel⟩
theorem mfX6_sheetAt : am_mV mX6_sheetAt 1 := ⟨moX6_sheetAt, am_wd (i := 744) (by decide +kernel) (by decide +kernel), am_wd (i := 29) (by decide +kernel) (by decide +kernel)⟩
abbrev mX3_isMissing : am_Mi := (yX3_isMissing, cX3_isMissing, 1, (some .boolean))
theorem moX3_isMissing : am_ok mX3_isMissing 0 := ⟨am_wd (i := 749) (by decide +kernel) (by decide +kernel), am_wd (i := 72) (by decide +kernel) (by decide +kernel), ⟨by decide +kernel, by decide +kernel, by decide +kernel⟩, by decide +kernel⟩
theorem mfX3_isMissing : am_mV mX3_isMissing 0 := ⟨moX3_isMissing, am_wd (i := 747) (by decide +kernel) (by decide +kernel), am_wd (i := 748) (by decide +kernel) (by decide +kernel)⟩
abbrev mX6_firstOtherwise : am_Mi := (yX6_firstOtherwise, cX6_firstOtherwise, 5, (some .int))
theorem moX6_firstOtherwise : am_ok mX6_firstOtherwise 2 := ⟨am_wd (i := 753) (by decide +kernel) (by decide +kernel), am_wd (i := 70) (by decide +kernel) (by decide +kernel), ⟨by decide +kernel, by decide +kernel, by decide +kernel⟩, by decide +kernel⟩
theorem mfX6_firstOtherwise : am_mV mX6_firstOtherwise 2 := ⟨moX6_firstOtherwise, am_wd (i := 752) (by decide +kernel) (by decide +kernel), am_wd (i := 30) (by decide +kernel) (by decide +kernel)⟩
abbrev mX3_get : am_Mi := (yX3_get, cX3_get, 2, (some .int))
theorem moX3_get : am_ok mX3_get 1 := ⟨am_wd (i := 757) (by decide +kernel) (by decide +kernel), am_wd (i := 72) (by decide +kernel) (by decide +kernel), ⟨by decide +kernel, by decide +kernel, by decide +kernel⟩, by decide +kernel⟩
theorem mfX3_get : am_mV mX3_get 1 := ⟨moX3_get, am_wd (i := 755) (by decide +kernel) (by decide +kernel), am_wd (i := 756) (by decide +kernel) (by decide +kernel)⟩
abbrev mX3_has : am_Mi := (yX3_has, cX3_has, 2, (some .boolean))
theorem moX3_has : am_ok mX3_has 1 := ⟨am_wd (i := 761) (by decide +kernel) (by decide +kernel), am_wd (i := 72) (by decide +kernel) (by decide +kernel), ⟨by decide +kernel, by decide +kernel, by decide +kernel⟩, by decide +kernel⟩
theorem mfX3_has : am_mV mX3_has 1 := ⟨moX3_has, am_wd (i := 759) (by decide +kernel) (by decide +kernel), am_wd (i := 760) (by decide +kernel) (by decide +kernel)⟩
abbrev mX6_whose : am_Mi := (yX6_whose, cX6_whose, 5, (some .int))
theorem moX6_whose : am_ok mX6_whose 1 := ⟨am_wd (i := 765) (by decide +kernel) (by decide +kernel), am_wd (i := 70) (by decide +kernel) (by decide +kernel), ⟨by decide +kernel, by decide +kernel, by decide +kernel⟩, by decide +kernel⟩
theorem mfX6_whose : am_mV mX6_whose 1 := ⟨moX6_whose, am_wd (i := 763) (by decide +kernel) (by decide +kernel), am_wd (i := 764) (by decide +kernel) (by decide +kernel)⟩
abbrev mX6_depth : am_Mi := (yX6_depth, cX6_depth, 9, (some .int))
theorem moX6_depth : am_ok mX6_depth 3 := ⟨am_wd (i := 769) (by decide +kernel) (by decide +kernel), am_wd (i := 70) (by decide +kernel) (by decide +kernel), ⟨by decide +kernel, by decide +kernel, by decide +kernel⟩, by decide +kernel⟩
theorem mfX6_depth : am_mV mX6_depth 3 := ⟨moX6_depth, am_wd (i := 767) (by decide +kernel) (by decide +kernel), am_wd (i := 768) (by decide +kernel) (by decide +kernel)⟩
abbrev mX6_laws : am_Mi := (yX6_laws, cX6_laws, 7, (some .int))
theorem moX6_laws : am_ok mX6_laws 2 := ⟨am_wd (i := 773) (by decide +kernel) (by decide +kernel), am_wd (i := 70) (by decide +kernel) (by decide +kernel), ⟨by decide +kernel, by decide +kernel, by decide +kernel⟩, by decide +kernel⟩
theorem mfX6_laws : am_mV mX6_laws 2 := ⟨moX6_laws, am_wd (i := 771) (by decide +kernel) (by decide +kernel), am_wd (i := 772) (by decide +kernel) (by decide +kernel)⟩
abbrev mX6_film : am_Mi := (yX6_film, cX6_film, 5, (some .int))
theorem moX6_film : am_ok mX6_film 2 := ⟨am_wd (i := 777) (by decide +kernel) (by decide +kernel), am_wd (i := 70) (by decide +kernel) (by decide +kernel), ⟨by decide +kernel, by decide +kernel, by decide +kernel⟩, by decide +kernel⟩
theorem mfX6_film : am_mV mX6_film 2 := ⟨moX6_film, am_wd (i := 775) (by decide +kernel) (by decide +kernel), am_wd (i := 776) (by decide +kernel) (by decide +kernel)⟩
abbrev mX3_become : am_Mi := (yX3_become, cX3_become, 3, none)
theorem moX3_become : am_ok mX3_become 2 := ⟨am_wd (i := 781) (by decide +kernel) (by decide +kernel), am_wd (i := 72) (by decide +kernel) (by decide +kernel), ⟨by decide +kernel, by decide +kernel, by decide +kernel⟩, by decide +kernel⟩
theorem mfX3_become : am_mV mX3_become 2 := ⟨moX3_become, am_wd (i := 779) (by decide +kernel) (by decide +kernel), am_wd (i := 780) (by decide +kernel) (by decide +kernel)⟩
abbrev mJ7_fill_53178 : am_Mi := (yJ7_fill_53178, cJ7_fill_53178, 4, none)
theorem moJ7_fill_53178 : am_ok mJ7_fill_53178 2 := ⟨am_wd (i := 785) (by decide +kernel) (by decide +kernel), am_wd (i := 80) (by decide +kernel) (by decide +kernel), ⟨by decide +kernel, by decide +kernel, by decide +kernel⟩, by decide +kernel⟩
theorem mfJ7_fill_53178 : am_mS mJ7_fill_53178 2 := ⟨moJ7_fill_53178, am_wd (i := 784) (by decide +kernel) (by decide +kernel)⟩
abbrev mX3_put : am_Mi := (yX3_put, cX3_put, 3, none)
theorem moX3_put : am_ok mX3_put 2 := ⟨am_wd (i := 789) (by decide +kernel) (by decide +kernel), am_wd (i := 72) (by decide +kernel) (by decide +kernel), ⟨by decide +kernel, by decide +kernel, by decide +kernel⟩, by decide +kernel⟩
theorem mfX3_put : am_mV mX3_put 2 := ⟨moX3_put, am_wd (i := 787) (by decide +kernel) (by decide +kernel), am_wd (i := 788) (by decide +kernel) (by decide +kernel)⟩
abbrev mX6_drawn : am_Mi := (yX6_drawn, cX6_drawn, 2, (some .int))
theorem moX6_drawn : am_ok mX6_drawn 1 := ⟨am_wd (i := 793) (by decide +kernel) (by decide +kernel), am_wd (i := 70) (by decide +kernel) (by decide +kernel), ⟨by decide +kernel, by decide +kernel, by decide +kernel⟩, by decide +kernel⟩
theorem mfX6_drawn : am_mV mX6_drawn 1 := ⟨moX6_drawn, am_wd (i := 791) (by decide +kernel) (by decide +kernel), am_wd (i := 792) (by decide +kernel) (by decide +kernel)⟩
abbrev mX6_winnerBy : am_Mi := (yX6_winnerBy, cX6_winnerBy, 8, (some .int))
theorem moX6_winnerBy : am_ok mX6_winnerBy 1 := ⟨am_wd (i := 798) (by decide +kernel) (by decide +kernel), am_wd (i := 70) (by decide +kernel) (by decide +kernel), ⟨by decide +kernel, by decide +kernel, by decide +kernel⟩, by decide +kernel⟩
theorem mfX6_winnerBy : am_mV mX6_winnerBy 1 := ⟨moX6_winnerBy, am_wd (i := 797) (by decide +kernel) (by decide +kernel), am_wd (i := 31) (by decide +kernel) (by decide +kernel)⟩
abbrev mX6_keepDepths : am_Mi := (yX6_keepDepths, cX6_keepDepths, 4, none)
theorem moX6_keepDepths : am_ok mX6_keepDepths 1 := ⟨am_wd (i := 802) (by decide +kernel) (by decide +kernel), am_wd (i := 70) (by decide +kernel) (by decide +kernel), ⟨by decide +kernel, by decide +kernel, by decide +kernel⟩, by decide +kernel⟩
theorem mfX6_keepDepths : am_mV mX6_keepDepths 1 := ⟨moX6_keepDepths, am_wd (i := 801) (by decide +kernel) (by decide +kernel), am_wd (i := 32) (by decide +kernel) (by decide +kernel)⟩
abbrev mX6_giveDepths : am_Mi := (yX6_giveDepths, cX6_giveDepths, 4, none)
theorem moX6_giveDepths : am_ok mX6_giveDepths 1 := ⟨am_wd (i := 809) (by decide +kernel) (by decide +kernel), am_wd (i := 70) (by decide +kernel) (by decide +kernel), ⟨by decide +kernel, by decide +kernel, by decide +kernel⟩, by decide +kernel⟩
theorem mfX6_giveDepths : am_mV mX6_giveDepths 1 := ⟨moX6_giveDepths, am_wd (i := 808) (by decide +kernel) (by decide +kernel), am_wd (i := 33) (by decide +kernel) (by decide +kernel)⟩
abbrev mX6_odds : am_Mi := (yX6_odds, cX6_odds, 7, (some .long))
theorem moX6_odds : am_ok mX6_odds 4 := ⟨am_wd (i := 813) (by decide +kernel) (by decide +kernel), am_wd (i := 70) (by decide +kernel) (by decide +kernel), ⟨by decide +kernel, by decide +kernel, by decide +kernel⟩, by decide +kernel⟩
theorem mfX6_odds : am_mV mX6_odds 4 := ⟨moX6_odds, am_wd (i := 811) (by decide +kernel) (by decide +kernel), am_wd (i := 812) (by decide +kernel) (by decide +kernel)⟩
abbrev mX6_image : am_Mi := (yX6_image, cX6_image, 3, (some .int))
theorem moX6_image : am_ok mX6_image 0 := ⟨am_wd (i := 817) (by decide +kernel) (by decide +kernel), am_wd (i := 70) (by decide +kernel) (by decide +kernel), ⟨by decide +kernel, by decide +kernel, by decide +kernel⟩, by decide +kernel⟩
theorem mfX6_image : am_mV mX6_image 0 := ⟨moX6_image, am_wd (i := 815) (by decide +kernel) (by decide +kernel), am_wd (i := 816) (by decide +kernel) (by decide +kernel)⟩
abbrev mX6_back : am_Mi := (yX6_back, cX6_back, 3, (some .int))
theorem moX6_back : am_ok mX6_back 0 := ⟨am_wd (i := 822) (by decide +kernel) (by decide +kernel), am_wd (i := 70) (by decide +kernel) (by decide +kernel), ⟨by decide +kernel, by decide +kernel, by decide +kernel⟩, by decide +kernel⟩
theorem mfX6_back : am_mV mX6_back 0 := ⟨moX6_back, am_wd (i := 820) (by decide +kernel) (by decide +kernel), am_wd (i := 821) (by decide +kernel) (by decide +kernel)⟩
abbrev mX6_sheet : am_Mi := (yX6_sheet, cX6_sheet, 5, (some .int))
theorem moX6_sheet : am_ok mX6_sheet 3 := ⟨am_wd (i := 826) (by decide +kernel) (by decide +kernel), am_wd (i := 70) (by decide +kernel) (by decide +kernel), ⟨by decide +kernel, by decide +kernel, by decide +kernel⟩, by decide +kernel⟩
theorem mfX6_sheet : am_mV mX6_sheet 3 := ⟨moX6_sheet, am_wd (i := 824) (by decide +kernel) (by decide +kernel), am_wd (i := 825) (by decide +kernel) (by decide +kernel)⟩
abbrev mX6_cell : am_Mi := (yX6_cell, cX6_cell, 5, (some .int))
theorem moX6_cell : am_ok mX6_cell 3 := ⟨am_wd (i := 830) (by decide +kernel) (by decide +kernel), am_wd (i := 70) (by decide +kernel) (by decide +kernel), ⟨by decide +kernel, by decide +kernel, by decide +kernel⟩, by decide +kernel⟩
theorem mfX6_cell : am_mV mX6_cell 3 := ⟨moX6_cell, am_wd (i := 828) (by decide +kernel) (by decide +kernel), am_wd (i := 829) (by decide +kernel) (by decide +kernel)⟩
abbrev mX6_copy : am_Mi := (yX6_copy, cX6_copy, 8, (some .int))
theorem moX6_copy : am_ok mX6_copy 5 := ⟨am_wd (i := 835) (by decide +kernel) (by decide +kernel), am_wd (i := 70) (by decide +kernel) (by decide +kernel), ⟨by decide +kernel, by decide +kernel, by decide +kernel⟩, by decide +kernel⟩
theorem mfX6_copy : am_mV mX6_copy 5 := ⟨moX6_copy, am_wd (i := 833) (by decide +kernel) (by decide +kernel), am_wd (i := 834) (by decide +kernel) (by decide +kernel)⟩
abbrev mX3_hasRow : am_Mi := (yX3_hasRow, cX3_hasRow, 3, (some .boolean))
theorem moX3_hasRow : am_ok mX3_hasRow 2 := ⟨am_wd (i := 839) (by decide +kernel) (by decide +kernel), am_wd (i := 72) (by decide +kernel) (by decide +kernel), ⟨by decide +kernel, by decide +kernel, by decide +kernel⟩, by decide +kernel⟩
theorem mfX3_hasRow : am_mV mX3_hasRow 2 := ⟨moX3_hasRow, am_wd (i := 837) (by decide +kernel) (by decide +kernel), am_wd (i := 838) (by decide +kernel) (by decide +kernel)⟩
abbrev mX6_depthsBy : am_Mi := (yX6_depthsBy, cX6_depthsBy, 9, (some .int))
theorem moX6_depthsBy : am_ok mX6_depthsBy 4 := ⟨am_wd (i := 843) (by decide +kernel) (by decide +kernel), am_wd (i := 70) (by decide +kernel) (by decide +kernel), ⟨by decide +kernel, by decide +kernel, by decide +kernel⟩, by decide +kernel⟩
theorem mfX6_depthsBy : am_mV mX6_depthsBy 4 := ⟨moX6_depthsBy, am_wd (i := 841) (by decide +kernel) (by decide +kernel), am_wd (i := 842) (by decide +kernel) (by decide +kernel)⟩
abbrev mX6_taken : am_Mi := (yX6_taken, cX6_taken, 4, (some .int))
theorem moX6_taken : am_ok mX6_taken 2 := ⟨am_wd (i := 848) (by decide +kernel) (by decide +kernel), am_wd (i := 70) (by decide +kernel) (by decide +kernel), ⟨by decide +kernel, by decide +kernel, by decide +kernel⟩, by decide +kernel⟩
theorem mfX6_taken : am_mV mX6_taken 2 := ⟨moX6_taken, am_wd (i := 846) (by decide +kernel) (by decide +kernel), am_wd (i := 847) (by decide +kernel) (by decide +kernel)⟩
abbrev mX7_init : am_Mi := (yX7_init, cX7_init, 2, none)
theorem moX7_init : am_ok mX7_init 0 := ⟨am_wd (i := 854) (by decide +kernel) (by decide +kernel), am_wd (i := 83) (by decide +kernel) (by decide +kernel), ⟨by decide +kernel, by decide +kernel, by decide +kernel⟩, by decide +kernel⟩
theorem mfX7_init : am_mI mX7_init 0 := ⟨moX7_init, am_wd (i := 853) (by decide +kernel) (by decide +kernel), by decide +kernel, rfl⟩
abbrev mX7_text : am_Mi := (yX7_text, cX7_text, 3, (some .int))
theorem moX7_text : am_ok mX7_text 0 := ⟨am_wd (i := 859) (by decide +kernel) (by decide +kernel), am_wd (i := 83) (by decide +kernel) (by decide +kernel), ⟨by decide +kernel, by decide +kernel, by decide +kernel⟩, by decide +kernel⟩
theorem mfX7_text : am_mV mX7_text 0 := ⟨moX7_text, am_wd (i := 857) (by decide +kernel) (by decide +kernel), am_wd (i := 858) (by decide +kernel) (by decide +kernel)⟩
abbrev mX7_next : am_Mi := (yX7_next, cX7_next, 3, none)
theorem moX7_next : am_ok mX7_next 0 := ⟨am_wd (i := 863) (by decide +kernel) (by decide +kernel), am_wd (i := 83) (by decide +kernel) (by decide +kernel), ⟨by decide +kernel, by decide +kernel, by decide +kernel⟩, by decide +kernel⟩
theorem mfX7_next : am_mV mX7_next 0 := ⟨moX7_next, am_wd (i := 862) (by decide +kernel) (by decide +kernel), am_wd (i := 34) (by decide +kernel) (by decide +kernel)⟩
abbrev mX7_in : am_Mi := (yX7_in, cX7_in, 3, (some .boolean))
theorem moX7_in : am_ok mX7_in 3 := ⟨am_wd (i := 866) (by decide +kernel) (by decide +kernel), am_wd (i := 83) (by decide +kernel) (by decide +kernel), ⟨by decide +kernel, by decide +kernel, by decide +kernel⟩, by decide +kernel⟩
theorem mfX7_in : am_mS mX7_in 3 := ⟨moX7_in, am_wd (i := 865) (by decide +kernel) (by decide +kernel)⟩
abbrev mX7_wordFrom : am_Mi := (yX7_wordFrom, cX7_wordFrom, 6, (some .int))
theorem moX7_wordFrom : am_ok mX7_wordFrom 2 := ⟨am_wd (i := 870) (by decide +kernel) (by decide +kernel), am_wd (i := 83) (by decide +kernel) (by decide +kernel), ⟨by decide +kernel, by decide +kernel, by decide +kernel⟩, by decide +kernel⟩
theorem mfX7_wordFrom : am_mV mX7_wordFrom 2 := ⟨moX7_wordFrom, am_wd (i := 869) (by decide +kernel) (by decide +kernel), am_wd (i := 35) (by decide +kernel) (by decide +kernel)⟩
abbrev mX7_eRead : am_Mi := (yX7_eRead, cX7_eRead, 4, (some .boolean))
theorem moX7_eRead : am_ok mX7_eRead 0 := ⟨am_wd (i := 874) (by decide +kernel) (by decide +kernel), am_wd (i := 83) (by decide +kernel) (by decide +kernel), ⟨by decide +kernel, by decide +kernel, by decide +kernel⟩, by decide +kernel⟩
theorem mfX7_eRead : am_mV mX7_eRead 0 := ⟨moX7_eRead, am_wd (i := 873) (by decide +kernel) (by decide +kernel), am_wd (i := 36) (by decide +kernel) (by decide +kernel)⟩
abbrev mX7_puts : am_Mi := (yX7_puts, cX7_puts, 2, none)
theorem moX7_puts : am_ok mX7_puts 1 := ⟨am_wd (i := 879) (by decide +kernel) (by decide +kernel), am_wd (i := 83) (by decide +kernel) (by decide +kernel), ⟨by decide +kernel, by decide +kernel, by decide +kernel⟩, by decide +kernel⟩
theorem mfX7_puts : am_mV mX7_puts 1 := ⟨moX7_puts, am_wd (i := 878) (by decide +kernel) (by decide +kernel), am_wd (i := 37) (by decide +kernel) (by decide +kernel)⟩
abbrev mX7_unwinds : am_Mi := (yX7_unwinds, cX7_unwinds, 3, none)
theorem moX7_unwinds : am_ok mX7_unwinds 1 := ⟨am_wd (i := 883) (by decide +kernel) (by decide +kernel), am_wd (i := 83) (by decide +kernel) (by decide +kernel), ⟨by decide +kernel, by decide +kernel, by decide +kernel⟩, by decide +kernel⟩
theorem mfX7_unwinds : am_mV mX7_unwinds 1 := ⟨moX7_unwinds, am_wd (i := 882) (by decide +kernel) (by decide +kernel), am_wd (i := 38) (by decide +kernel) (by decide +kernel)⟩
abbrev mX7_rank : am_Mi := (yX7_rank, cX7_rank, 1, (some .int))
theorem moX7_rank : am_ok mX7_rank 1 := ⟨am_wd (i := 886) (by decide +kernel) (by decide +kernel), am_wd (i := 83) (by decide +kernel) (by decide +kernel), ⟨by decide +kernel, by decide +kernel, by decide +kernel⟩, by decide +kernel⟩
theorem mfX7_rank : am_mS mX7_rank 1 := ⟨moX7_rank, am_wd (i := 885) (by decide +kernel) (by decide +kernel)⟩
abbrev mX7_opensOne : am_Mi := (yX7_opensOne, cX7_opensOne, 2, (some .boolean))
theorem moX7_opensOne : am_ok mX7_opensOne 1 := ⟨am_wd (i := 890) (by decide +kernel) (by decide +kernel), am_wd (i := 83) (by decide +kernel) (by decide +kernel), ⟨by decide +kernel, by decide +kernel, by decide +kernel⟩, by decide +kernel⟩
theorem mfX7_opensOne : am_mV mX7_opensOne 1 := ⟨moX7_opensOne, am_wd (i := 889) (by decide +kernel) (by decide +kernel), am_wd (i := 39) (by decide +kernel) (by decide +kernel)⟩
abbrev mX7_holds : am_Mi := (yX7_holds, cX7_holds, 2, none)
theorem moX7_holds : am_ok mX7_holds 1 := ⟨am_wd (i := 894) (by decide +kernel) (by decide +kernel), am_wd (i := 83) (by decide +kernel) (by decide +kernel), ⟨by decide +kernel, by decide +kernel, by decide +kernel⟩, by decide +kernel⟩
theorem mfX7_holds : am_mV mX7_holds 1 := ⟨moX7_holds, am_wd (i := 893) (by decide +kernel) (by decide +kernel), am_wd (i := 40) (by decide +kernel) (by decide +kernel)⟩
abbrev mX7_signOf : am_Mi := (yX7_signOf, cX7_signOf, 1, (some .int))
theorem moX7_signOf : am_ok mX7_signOf 0 := ⟨am_wd (i := 898) (by decide +kernel) (by decide +kernel), am_wd (i := 83) (by decide +kernel) (by decide +kernel), ⟨by decide +kernel, by decide +kernel, by decide +kernel⟩, by decide +kernel⟩
theorem mfX7_signOf : am_mV mX7_signOf 0 := ⟨moX7_signOf, am_wd (i := 897) (by decide +kernel) (by decide +kernel), am_wd (i := 41) (by decide +kernel) (by decide +kernel)⟩
abbrev mX7_between : am_Mi := (yX7_between, cX7_between, 2, (some .boolean))
theorem moX7_between : am_ok mX7_between 1 := ⟨am_wd (i := 902) (by decide +kernel) (by decide +kernel), am_wd (i := 83) (by decide +kernel) (by decide +kernel), ⟨by decide +kernel, by decide +kernel, by decide +kernel⟩, by decide +kernel⟩
theorem mfX7_between : am_mV mX7_between 1 := ⟨moX7_between, am_wd (i := 901) (by decide +kernel) (by decide +kernel), am_wd (i := 42) (by decide +kernel) (by decide +kernel)⟩
abbrev mX7_count : am_Mi := (yX7_count, cX7_count, 2, (some .int))
theorem moX7_count : am_ok mX7_count 1 := ⟨am_wd (i := 1024) (by decide +kernel) (by decide +kernel), am_wd (i := 83) (by decide +kernel) (by decide +kernel), ⟨by decide +kernel, by decide +kernel, by decide +kernel⟩, by decide +kernel⟩
theorem mfX7_count : am_mV mX7_count 1 := ⟨moX7_count, am_wd (i := 1022) (by decide +kernel) (by decide +kernel), am_wd (i := 1023) (by decide +kernel) (by decide +kernel)⟩
abbrev mX7_feed : am_Mi := (yX7_feed, cX7_feed, 8, (some .int))
theorem moX7_feed : am_ok mX7_feed 6 := ⟨am_wd (i := 1028) (by decide +kernel) (by decide +kernel), am_wd (i := 83) (by decide +kernel) (by decide +kernel), ⟨by decide +kernel, by decide +kernel, by decide +kernel⟩, by decide +kernel⟩
theorem mfX7_feed : am_mV mX7_feed 6 := ⟨moX7_feed, am_wd (i := 1026) (by decide +kernel) (by decide +kernel), am_wd (i := 1027) (by decide +kernel) (by decide +kernel)⟩
abbrev mX7_isByte : am_Mi := (yX7_isByte, cX7_isByte, 1, (some .boolean))
theorem moX7_isByte : am_ok mX7_isByte 1 := ⟨am_wd (i := 1031) (by decide +kernel) (by decide +kernel), am_wd (i := 83) (by decide +kernel) (by decide +kernel), ⟨by decide +kernel, by decide +kernel, by decide +kernel⟩, by decide +kernel⟩
theorem mfX7_isByte : am_mS mX7_isByte 1 := ⟨moX7_isByte, am_wd (i := 1030) (by decide +kernel) (by decide +kernel)⟩
abbrev mX7_force : am_Mi := (yX7_force, cX7_force, 3, (some .int))
theorem moX7_force : am_ok mX7_force 1 := ⟨am_wd (i := 1036) (by decide +kernel) (by decide +kernel), am_wd (i := 83) (by decide +kernel) (by decide +kernel), ⟨by decide +kernel, by decide +kernel, by decide +kernel⟩, by decide +kernel⟩
theorem mfX7_force : am_mV mX7_force 1 := ⟨moX7_force, am_wd (i := 1034) (by decide +kernel) (by decide +kernel), am_wd (i := 1035) (by decide +kernel) (by decide +kernel)⟩
abbrev mX7_asks : am_Mi := (yX7_asks, cX7_asks, 7, (some .int))
theorem moX7_asks : am_ok mX7_asks 5 := ⟨am_wd (i := 1040) (by decide +kernel) (by decide +kernel), am_wd (i := 83) (by decide +kernel) (by decide +kernel), ⟨by decide +kernel, by decide +kernel, by decide +kernel⟩, by decide +kernel⟩
theorem mfX7_asks : am_mV mX7_asks 5 := ⟨moX7_asks, am_wd (i := 1038) (by decide +kernel) (by decide +kernel), am_wd (i := 1039) (by decide +kernel) (by decide +kernel)⟩
abbrev mX7_asksOf : am_Mi := (yX7_asksOf, cX7_asksOf, 8, (some .int))
theorem moX7_asksOf : am_ok mX7_asksOf 7 := ⟨am_wd (i := 1044) (by decide +kernel) (by decide +kernel), am_wd (i := 83) (by decide +kernel) (by decide +kernel), ⟨by decide +kernel, by decide +kernel, by decide +kernel⟩, by decide +kernel⟩
theorem mfX7_asksOf : am_mV mX7_asksOf 7 := ⟨moX7_asksOf, am_wd (i := 1043) (by decide +kernel) (by decide +kernel), am_wd (i := 43) (by decide +kernel) (by decide +kernel)⟩
abbrev mX7_says : am_Mi := (yX7_says, cX7_says, 5, (some .int))
theorem moX7_says : am_ok mX7_says 1 := ⟨am_wd (i := 1048) (by decide +kernel) (by decide +kernel), am_wd (i := 83) (by decide +kernel) (by decide +kernel), ⟨by decide +kernel, by decide +kernel, by decide +kernel⟩, by decide +kernel⟩
theorem mfX7_says : am_mV mX7_says 1 := ⟨moX7_says, am_wd (i := 1047) (by decide +kernel) (by decide +kernel), am_wd (i := 44) (by decide +kernel) (by decide +kernel)⟩
abbrev mX7_two : am_Mi := (yX7_two, cX7_two, 3, (some .int))
theorem moX7_two : am_ok mX7_two 3 := ⟨am_wd (i := 1051) (by decide +kernel) (by decide +kernel), am_wd (i := 83) (by decide +kernel) (by decide +kernel), ⟨by decide +kernel, by decide +kernel, by decide +kernel⟩, by decide +kernel⟩
theorem mfX7_two : am_mS mX7_two 3 := ⟨moX7_two, am_wd (i := 1050) (by decide +kernel) (by decide +kernel)⟩
abbrev mX7_within : am_Mi := (yX7_within, cX7_within, 3, (some .int))
theorem moX7_within : am_ok mX7_within 3 := ⟨am_wd (i := 1054) (by decide +kernel) (by decide +kernel), am_wd (i := 83) (by decide +kernel) (by decide +kernel), ⟨by decide +kernel, by decide +kernel, by decide +kernel⟩, by decide +kernel⟩
theorem mfX7_within : am_mS mX7_within 3 := ⟨moX7_within, am_wd (i := 1053) (by decide +kernel) (by decide +kernel)⟩
abbrev mX7_come : am_Mi := (yX7_come, cX7_come, 5, (some .int))
theorem moX7_come : am_ok mX7_come 3 := ⟨am_wd (i := 1058) (by decide +kernel) (by decide +kernel), am_wd (i := 83) (by decide +kernel) (by decide +kernel), ⟨by decide +kernel, by decide +kernel, by decide +kernel⟩, by decide +kernel⟩
theorem mfX7_come : am_mV mX7_come 3 := ⟨moX7_come, am_wd (i := 1056) (by decide +kernel) (by decide +kernel), am_wd (i := 1057) (by decide +kernel) (by decide +kernel)⟩
abbrev mX7_learn : am_Mi := (yX7_learn, cX7_learn, 5, (some .int))
theorem moX7_learn : am_ok mX7_learn 3 := ⟨am_wd (i := 1062) (by decide +kernel) (by decide +kernel), am_wd (i := 83) (by decide +kernel) (by decide +kernel), ⟨by decide +kernel, by decide +kernel, by decide +kernel⟩, by decide +kernel⟩
theorem mfX7_learn : am_mV mX7_learn 3 := ⟨moX7_learn, am_wd (i := 1060) (by decide +kernel) (by decide +kernel), am_wd (i := 1061) (by decide +kernel) (by decide +kernel)⟩
abbrev mX7_isOne : am_Mi := (yX7_isOne, cX7_isOne, 2, (some .boolean))
theorem moX7_isOne : am_ok mX7_isOne 1 := ⟨am_wd (i := 1066) (by decide +kernel) (by decide +kernel), am_wd (i := 83) (by decide +kernel) (by decide +kernel), ⟨by decide +kernel, by decide +kernel, by decide +kernel⟩, by decide +kernel⟩
theorem mfX7_isOne : am_mV mX7_isOne 1 := ⟨moX7_isOne, am_wd (i := 1065) (by decide +kernel) (by decide +kernel), am_wd (i := 45) (by decide +kernel) (by decide +kernel)⟩
abbrev mX7_sit : am_Mi := (yX7_sit, cX7_sit, 4, (some .int))
theorem moX7_sit : am_ok mX7_sit 2 := ⟨am_wd (i := 1070) (by decide +kernel) (by decide +kernel), am_wd (i := 83) (by decide +kernel) (by decide +kernel), ⟨by decide +kernel, by decide +kernel, by decide +kernel⟩, by decide +kernel⟩
theorem mfX7_sit : am_mV mX7_sit 2 := ⟨moX7_sit, am_wd (i := 1068) (by decide +kernel) (by decide +kernel), am_wd (i := 1069) (by decide +kernel) (by decide +kernel)⟩
abbrev mX7_told : am_Mi := (yX7_told, cX7_told, 3, (some .int))
theorem moX7_told : am_ok mX7_told 2 := ⟨am_wd (i := 1074) (by decide +kernel) (by decide +kernel), am_wd (i := 83) (by decide +kernel) (by decide +kernel), ⟨by decide +kernel, by decide +kernel, by decide +kernel⟩, by decide +kernel⟩
theorem mfX7_told : am_mV mX7_told 2 := ⟨moX7_told, am_wd (i := 1072) (by decide +kernel) (by decide +kernel), am_wd (i := 1073) (by decide +kernel) (by decide +kernel)⟩
abbrev mX7_question : am_Mi := (yX7_question, cX7_question, 3, (some .int))
theorem moX7_question : am_ok mX7_question 2 := ⟨am_wd (i := 1078) (by decide +kernel) (by decide +kernel), am_wd (i := 83) (by decide +kernel) (by decide +kernel), ⟨by decide +kernel, by decide +kernel, by decide +kernel⟩, by decide +kernel⟩
theorem mfX7_question : am_mV mX7_question 2 := ⟨moX7_question, am_wd (i := 1076) (by decide +kernel) (by decide +kernel), am_wd (i := 1077) (by decide +kernel) (by decide +kernel)⟩
abbrev mX7_askedOf : am_Mi := (yX7_askedOf, cX7_askedOf, 3, (some .int))
theorem moX7_askedOf : am_ok mX7_askedOf 2 := ⟨am_wd (i := 1082) (by decide +kernel) (by decide +kernel), am_wd (i := 83) (by decide +kernel) (by decide +kernel), ⟨by decide +kernel, by decide +kernel, by decide +kernel⟩, by decide +kernel⟩
theorem mfX7_askedOf : am_mV mX7_askedOf 2 := ⟨moX7_askedOf, am_wd (i := 1080) (by decide +kernel) (by decide +kernel), am_wd (i := 1081) (by decide +kernel) (by decide +kernel)⟩
abbrev mX7_isQuestion : am_Mi := (yX7_isQuestion, cX7_isQuestion, 2, (some .boolean))
theorem moX7_isQuestion : am_ok mX7_isQuestion 1 := ⟨am_wd (i := 1086) (by decide +kernel) (by decide +kernel), am_wd (i := 83) (by decide +kernel) (by decide +kernel), ⟨by decide +kernel, by decide +kernel, by decide +kernel⟩, by decide +kernel⟩
theorem mfX7_isQuestion : am_mV mX7_isQuestion 1 := ⟨moX7_isQuestion, am_wd (i := 1085) (by decide +kernel) (by decide +kernel), am_wd (i := 46) (by decide +kernel) (by decide +kernel)⟩
abbrev mX7_lay : am_Mi := (yX7_lay, cX7_lay, 4, (some .int))
theorem moX7_lay : am_ok mX7_lay 2 := ⟨am_wd (i := 1090) (by decide +kernel) (by decide +kernel), am_wd (i := 83) (by decide +kernel) (by decide +kernel), ⟨by decide +kernel, by decide +kernel, by decide +kernel⟩, by decide +kernel⟩
theorem mfX7_lay : am_mV mX7_lay 2 := ⟨moX7_lay, am_wd (i := 1088) (by decide +kernel) (by decide +kernel), am_wd (i := 1089) (by decide +kernel) (by decide +kernel)⟩
abbrev mX7_isTable : am_Mi := (yX7_isTable, cX7_isTable, 1, (some .boolean))
theorem moX7_isTable : am_ok mX7_isTable 1 := ⟨am_wd (i := 1093) (by decide +kernel) (by decide +kernel), am_wd (i := 83) (by decide +kernel) (by decide +kernel), ⟨by decide +kernel, by decide +kernel, by decide +kernel⟩, by decide +kernel⟩
theorem mfX7_isTable : am_mS mX7_isTable 1 := ⟨moX7_isTable, am_wd (i := 1092) (by decide +kernel) (by decide +kernel)⟩
abbrev mX7_laid : am_Mi := (yX7_laid, cX7_laid, 2, (some .int))
theorem moX7_laid : am_ok mX7_laid 1 := ⟨am_wd (i := 1097) (by decide +kernel) (by decide +kernel), am_wd (i := 83) (by decide +kernel) (by decide +kernel), ⟨by decide +kernel, by decide +kernel, by decide +kernel⟩, by decide +kernel⟩
theorem mfX7_laid : am_mV mX7_laid 1 := ⟨moX7_laid, am_wd (i := 1095) (by decide +kernel) (by decide +kernel), am_wd (i := 1096) (by decide +kernel) (by decide +kernel)⟩
abbrev mX7_answer : am_Mi := (yX7_answer, cX7_answer, 4, (some .int))
theorem moX7_answer : am_ok mX7_answer 3 := ⟨am_wd (i := 1101) (by decide +kernel) (by decide +kernel), am_wd (i := 83) (by decide +kernel) (by decide +kernel), ⟨by decide +kernel, by decide +kernel, by decide +kernel⟩, by decide +kernel⟩
theorem mfX7_answer : am_mV mX7_answer 3 := ⟨moX7_answer, am_wd (i := 1099) (by decide +kernel) (by decide +kernel), am_wd (i := 1100) (by decide +kernel) (by decide +kernel)⟩
abbrev mX7_believed : am_Mi := (yX7_believed, cX7_believed, 8, (some .int))
theorem moX7_believed : am_ok mX7_believed 2 := ⟨am_wd (i := 1105) (by decide +kernel) (by decide +kernel), am_wd (i := 83) (by decide +kernel) (by decide +kernel), ⟨by decide +kernel, by decide +kernel, by decide +kernel⟩, by decide +kernel⟩
theorem mfX7_believed : am_mV mX7_believed 2 := ⟨moX7_believed, am_wd (i := 1104) (by decide +kernel) (by decide +kernel), am_wd (i := 47) (by decide +kernel) (by decide +kernel)⟩
abbrev mX7_weight : am_Mi := (yX7_weight, cX7_weight, 3, (some .int))
theorem moX7_weight : am_ok mX7_weight 2 := ⟨am_wd (i := 1109) (by decide +kernel) (by decide +kernel), am_wd (i := 83) (by decide +kernel) (by decide +kernel), ⟨by decide +kernel, by decide +kernel, by decide +kernel⟩, by decide +kernel⟩
theorem mfX7_weight : am_mV mX7_weight 2 := ⟨moX7_weight, am_wd (i := 1108) (by decide +kernel) (by decide +kernel), am_wd (i := 48) (by decide +kernel) (by decide +kernel)⟩
abbrev mX7_knows : am_Mi := (yX7_knows, cX7_knows, 8, (some .int))
theorem moX7_knows : am_ok mX7_knows 2 := ⟨am_wd (i := 1113) (by decide +kernel) (by decide +kernel), am_wd (i := 83) (by decide +kernel) (by decide +kernel), ⟨by decide +kernel, by decide +kernel, by decide +kernel⟩, by decide +kernel⟩
theorem mfX7_knows : am_mV mX7_knows 2 := ⟨moX7_knows, am_wd (i := 1112) (by decide +kernel) (by decide +kernel), am_wd (i := 49) (by decide +kernel) (by decide +kernel)⟩
abbrev mX7_loudOf : am_Mi := (yX7_loudOf, cX7_loudOf, 5, (some .int))
theorem moX7_loudOf : am_ok mX7_loudOf 2 := ⟨am_wd (i := 1117) (by decide +kernel) (by decide +kernel), am_wd (i := 83) (by decide +kernel) (by decide +kernel), ⟨by decide +kernel, by decide +kernel, by decide +kernel⟩, by decide +kernel⟩
theorem mfX7_loudOf : am_mV mX7_loudOf 2 := ⟨moX7_loudOf, am_wd (i := 1116) (by decide +kernel) (by decide +kernel), am_wd (i := 50) (by decide +kernel) (by decide +kernel)⟩
abbrev mX7_isRight : am_Mi := (yX7_isRight, cX7_isRight, 4, (some .boolean))
theorem moX7_isRight : am_ok mX7_isRight 2 := ⟨am_wd (i := 1121) (by decide +kernel) (by decide +kernel), am_wd (i := 83) (by decide +kernel) (by decide +kernel), ⟨by decide +kernel, by decide +kernel, by decide +kernel⟩, by decide +kernel⟩
theorem mfX7_isRight : am_mV mX7_isRight 2 := ⟨moX7_isRight, am_wd (i := 1120) (by decide +kernel) (by decide +kernel), am_wd (i := 51) (by decide +kernel) (by decide +kernel)⟩
abbrev mX7_canAnswer : am_Mi := (yX7_canAnswer, cX7_canAnswer, 3, (some .boolean))
theorem moX7_canAnswer : am_ok mX7_canAnswer 2 := ⟨am_wd (i := 1125) (by decide +kernel) (by decide +kernel), am_wd (i := 83) (by decide +kernel) (by decide +kernel), ⟨by decide +kernel, by decide +kernel, by decide +kernel⟩, by decide +kernel⟩
theorem mfX7_canAnswer : am_mV mX7_canAnswer 2 := ⟨moX7_canAnswer, am_wd (i := 1124) (by decide +kernel) (by decide +kernel), am_wd (i := 52) (by decide +kernel) (by decide +kernel)⟩
abbrev mX7_knowing : am_Mi := (yX7_knowing, cX7_knowing, 5, (some .int))
theorem moX7_knowing : am_ok mX7_knowing 2 := ⟨am_wd (i := 1129) (by decide +kernel) (by decide +kernel), am_wd (i := 83) (by decide +kernel) (by decide +kernel), ⟨by decide +kernel, by decide +kernel, by decide +kernel⟩, by decide +kernel⟩
theorem mfX7_knowing : am_mV mX7_knowing 2 := ⟨moX7_knowing, am_wd (i := 1128) (by decide +kernel) (by decide +kernel), am_wd (i := 53) (by decide +kernel) (by decide +kernel)⟩
abbrev mX7_score : am_Mi := (yX7_score, cX7_score, 3, (some .int))
theorem moX7_score : am_ok mX7_score 2 := ⟨am_wd (i := 1133) (by decide +kernel) (by decide +kernel), am_wd (i := 83) (by decide +kernel) (by decide +kernel), ⟨by decide +kernel, by decide +kernel, by decide +kernel⟩, by decide +kernel⟩
theorem mfX7_score : am_mV mX7_score 2 := ⟨moX7_score, am_wd (i := 1131) (by decide +kernel) (by decide +kernel), am_wd (i := 1132) (by decide +kernel) (by decide +kernel)⟩
abbrev mX7_scoreNow : am_Mi := (yX7_scoreNow, cX7_scoreNow, 2, (some .int))
theorem moX7_scoreNow : am_ok mX7_scoreNow 1 := ⟨am_wd (i := 1137) (by decide +kernel) (by decide +kernel), am_wd (i := 83) (by decide +kernel) (by decide +kernel), ⟨by decide +kernel, by decide +kernel, by decide +kernel⟩, by decide +kernel⟩
theorem mfX7_scoreNow : am_mV mX7_scoreNow 1 := ⟨moX7_scoreNow, am_wd (i := 1136) (by decide +kernel) (by decide +kernel), am_wd (i := 54) (by decide +kernel) (by decide +kernel)⟩
abbrev mX7_all : am_Mi := (yX7_all, cX7_all, 1, (some .int))
theorem moX7_all : am_ok mX7_all 0 := ⟨am_wd (i := 1141) (by decide +kernel) (by decide +kernel), am_wd (i := 83) (by decide +kernel) (by decide +kernel), ⟨by decide +kernel, by decide +kernel, by decide +kernel⟩, by decide +kernel⟩
theorem mfX7_all : am_mV mX7_all 0 := ⟨moX7_all, am_wd (i := 1140) (by decide +kernel) (by decide +kernel), am_wd (i := 55) (by decide +kernel) (by decide +kernel)⟩
abbrev mX7_scoreOf : am_Mi := (yX7_scoreOf, cX7_scoreOf, 5, (some .int))
theorem moX7_scoreOf : am_ok mX7_scoreOf 2 := ⟨am_wd (i := 1145) (by decide +kernel) (by decide +kernel), am_wd (i := 83) (by decide +kernel) (by decide +kernel), ⟨by decide +kernel, by decide +kernel, by decide +kernel⟩, by decide +kernel⟩
theorem mfX7_scoreOf : am_mV mX7_scoreOf 2 := ⟨moX7_scoreOf, am_wd (i := 1144) (by decide +kernel) (by decide +kernel), am_wd (i := 56) (by decide +kernel) (by decide +kernel)⟩
abbrev mX7_pointsOf : am_Mi := (yX7_pointsOf, cX7_pointsOf, 4, (some .int))
theorem moX7_pointsOf : am_ok mX7_pointsOf 2 := ⟨am_wd (i := 1149) (by decide +kernel) (by decide +kernel), am_wd (i := 83) (by decide +kernel) (by decide +kernel), ⟨by decide +kernel, by decide +kernel, by decide +kernel⟩, by decide +kernel⟩
theorem mfX7_pointsOf : am_mV mX7_pointsOf 2 := ⟨moX7_pointsOf, am_wd (i := 1148) (by decide +kernel) (by decide +kernel), am_wd (i := 57) (by decide +kernel) (by decide +kernel)⟩
abbrev mX7_rightOf : am_Mi := (yX7_rightOf, cX7_rightOf, 4, (some .int))
theorem moX7_rightOf : am_ok mX7_rightOf 1 := ⟨am_wd (i := 1153) (by decide +kernel) (by decide +kernel), am_wd (i := 83) (by decide +kernel) (by decide +kernel), ⟨by decide +kernel, by decide +kernel, by decide +kernel⟩, by decide +kernel⟩
theorem mfX7_rightOf : am_mV mX7_rightOf 1 := ⟨moX7_rightOf, am_wd (i := 1152) (by decide +kernel) (by decide +kernel), am_wd (i := 58) (by decide +kernel) (by decide +kernel)⟩
abbrev mX7_missed : am_Mi := (yX7_missed, cX7_missed, 4, (some .int))
theorem moX7_missed : am_ok mX7_missed 1 := ⟨am_wd (i := 1157) (by decide +kernel) (by decide +kernel), am_wd (i := 83) (by decide +kernel) (by decide +kernel), ⟨by decide +kernel, by decide +kernel, by decide +kernel⟩, by decide +kernel⟩
theorem mfX7_missed : am_mV mX7_missed 1 := ⟨moX7_missed, am_wd (i := 1156) (by decide +kernel) (by decide +kernel), am_wd (i := 59) (by decide +kernel) (by decide +kernel)⟩
abbrev mX7_evening : am_Mi := (yX7_evening, cX7_evening, 2, (some .int))
theorem moX7_evening : am_ok mX7_evening 1 := ⟨am_wd (i := 1161) (by decide +kernel) (by decide +kernel), am_wd (i := 83) (by decide +kernel) (by decide +kernel), ⟨by decide +kernel, by decide +kernel, by decide +kernel⟩, by decide +kernel⟩
theorem mfX7_evening : am_mV mX7_evening 1 := ⟨moX7_evening, am_wd (i := 1159) (by decide +kernel) (by decide +kernel), am_wd (i := 1160) (by decide +kernel) (by decide +kernel)⟩
abbrev mX7_winner : am_Mi := (yX7_winner, cX7_winner, 3, (some .int))
theorem moX7_winner : am_ok mX7_winner 0 := ⟨am_wd (i := 1165) (by decide +kernel) (by decide +kernel), am_wd (i := 83) (by decide +kernel) (by decide +kernel), ⟨by decide +kernel, by decide +kernel, by decide +kernel⟩, by decide +kernel⟩
theorem mfX7_winner : am_mV mX7_winner 0 := ⟨moX7_winner, am_wd (i := 1164) (by decide +kernel) (by decide +kernel), am_wd (i := 60) (by decide +kernel) (by decide +kernel)⟩
abbrev mX7_apart : am_Mi := (yX7_apart, cX7_apart, 6, (some .int))
theorem moX7_apart : am_ok mX7_apart 1 := ⟨am_wd (i := 1169) (by decide +kernel) (by decide +kernel), am_wd (i := 83) (by decide +kernel) (by decide +kernel), ⟨by decide +kernel, by decide +kernel, by decide +kernel⟩, by decide +kernel⟩
theorem mfX7_apart : am_mV mX7_apart 1 := ⟨moX7_apart, am_wd (i := 1168) (by decide +kernel) (by decide +kernel), am_wd (i := 61) (by decide +kernel) (by decide +kernel)⟩
abbrev mX7_best : am_Mi := (yX7_best, cX7_best, 8, (some .int))
theorem moX7_best : am_ok mX7_best 2 := ⟨am_wd (i := 1173) (by decide +kernel) (by decide +kernel), am_wd (i := 83) (by decide +kernel) (by decide +kernel), ⟨by decide +kernel, by decide +kernel, by decide +kernel⟩, by decide +kernel⟩
theorem mfX7_best : am_mV mX7_best 2 := ⟨moX7_best, am_wd (i := 1171) (by decide +kernel) (by decide +kernel), am_wd (i := 1172) (by decide +kernel) (by decide +kernel)⟩
abbrev mX7_join : am_Mi := (yX7_join, cX7_join, 7, (some .int))
theorem moX7_join : am_ok mX7_join 2 := ⟨am_wd (i := 1177) (by decide +kernel) (by decide +kernel), am_wd (i := 83) (by decide +kernel) (by decide +kernel), ⟨by decide +kernel, by decide +kernel, by decide +kernel⟩, by decide +kernel⟩
theorem mfX7_join : am_mV mX7_join 2 := ⟨moX7_join, am_wd (i := 1175) (by decide +kernel) (by decide +kernel), am_wd (i := 1176) (by decide +kernel) (by decide +kernel)⟩
abbrev mX7_scoreWith : am_Mi := (yX7_scoreWith, cX7_scoreWith, 6, (some .int))
theorem moX7_scoreWith : am_ok mX7_scoreWith 3 := ⟨am_wd (i := 1181) (by decide +kernel) (by decide +kernel), am_wd (i := 83) (by decide +kernel) (by decide +kernel), ⟨by decide +kernel, by decide +kernel, by decide +kernel⟩, by decide +kernel⟩
theorem mfX7_scoreWith : am_mV mX7_scoreWith 3 := ⟨moX7_scoreWith, am_wd (i := 1180) (by decide +kernel) (by decide +kernel), am_wd (i := 62) (by decide +kernel) (by decide +kernel)⟩
abbrev mX7_leave : am_Mi := (yX7_leave, cX7_leave, 7, (some .int))
theorem moX7_leave : am_ok mX7_leave 2 := ⟨am_wd (i := 1185) (by decide +kernel) (by decide +kernel), am_wd (i := 83) (by decide +kernel) (by decide +kernel), ⟨by decide +kernel, by decide +kernel, by decide +kernel⟩, by decide +kernel⟩
theorem mfX7_leave : am_mV mX7_leave 2 := ⟨moX7_leave, am_wd (i := 1183) (by decide +kernel) (by decide +kernel), am_wd (i := 1184) (by decide +kernel) (by decide +kernel)⟩
abbrev mX7_cover : am_Mi := (yX7_cover, cX7_cover, 6, (some .int))
theorem moX7_cover : am_ok mX7_cover 1 := ⟨am_wd (i := 1189) (by decide +kernel) (by decide +kernel), am_wd (i := 83) (by decide +kernel) (by decide +kernel), ⟨by decide +kernel, by decide +kernel, by decide +kernel⟩, by decide +kernel⟩
theorem mfX7_cover : am_mV mX7_cover 1 := ⟨moX7_cover, am_wd (i := 1187) (by decide +kernel) (by decide +kernel), am_wd (i := 1188) (by decide +kernel) (by decide +kernel)⟩
abbrev mX7_coveredBy : am_Mi := (yX7_coveredBy, cX7_coveredBy, 5, (some .int))
theorem moX7_coveredBy : am_ok mX7_coveredBy 1 := ⟨am_wd (i := 1193) (by decide +kernel) (by decide +kernel), am_wd (i := 83) (by decide +kernel) (by decide +kernel), ⟨by decide +kernel, by decide +kernel, by decide +kernel⟩, by decide +kernel⟩
theorem mfX7_coveredBy : am_mV mX7_coveredBy 1 := ⟨moX7_coveredBy, am_wd (i := 1192) (by decide +kernel) (by decide +kernel), am_wd (i := 63) (by decide +kernel) (by decide +kernel)⟩
abbrev mX7_ones : am_Mi := (yX7_ones, cX7_ones, 3, (some .int))
theorem moX7_ones : am_ok mX7_ones 1 := ⟨am_wd (i := 1196) (by decide +kernel) (by decide +kernel), am_wd (i := 83) (by decide +kernel) (by decide +kernel), ⟨by decide +kernel, by decide +kernel, by decide +kernel⟩, by decide +kernel⟩
theorem mfX7_ones : am_mS mX7_ones 1 := ⟨moX7_ones, am_wd (i := 1195) (by decide +kernel) (by decide +kernel)⟩
abbrev mX7_hire : am_Mi := (yX7_hire, cX7_hire, 11, (some .int))
theorem moX7_hire : am_ok mX7_hire 3 := ⟨am_wd (i := 1200) (by decide +kernel) (by decide +kernel), am_wd (i := 83) (by decide +kernel) (by decide +kernel), ⟨by decide +kernel, by decide +kernel, by decide +kernel⟩, by decide +kernel⟩
theorem mfX7_hire : am_mV mX7_hire 3 := ⟨moX7_hire, am_wd (i := 1198) (by decide +kernel) (by decide +kernel), am_wd (i := 1199) (by decide +kernel) (by decide +kernel)⟩
abbrev mX7_priceOf : am_Mi := (yX7_priceOf, cX7_priceOf, 4, (some .int))
theorem moX7_priceOf : am_ok mX7_priceOf 1 := ⟨am_wd (i := 1204) (by decide +kernel) (by decide +kernel), am_wd (i := 83) (by decide +kernel) (by decide +kernel), ⟨by decide +kernel, by decide +kernel, by decide +kernel⟩, by decide +kernel⟩
theorem mfX7_priceOf : am_mV mX7_priceOf 1 := ⟨moX7_priceOf, am_wd (i := 1203) (by decide +kernel) (by decide +kernel), am_wd (i := 64) (by decide +kernel) (by decide +kernel)⟩
abbrev mX7_price : am_Mi := (yX7_price, cX7_price, 2, (some .int))
theorem moX7_price : am_ok mX7_price 1 := ⟨am_wd (i := 1208) (by decide +kernel) (by decide +kernel), am_wd (i := 83) (by decide +kernel) (by decide +kernel), ⟨by decide +kernel, by decide +kernel, by decide +kernel⟩, by decide +kernel⟩
theorem mfX7_price : am_mV mX7_price 1 := ⟨moX7_price, am_wd (i := 1206) (by decide +kernel) (by decide +kernel), am_wd (i := 1207) (by decide +kernel) (by decide +kernel)⟩
abbrev mX7_close : am_Mi := (yX7_close, cX7_close, 8, (some .int))
theorem moX7_close : am_ok mX7_close 2 := ⟨am_wd (i := 1212) (by decide +kernel) (by decide +kernel), am_wd (i := 83) (by decide +kernel) (by decide +kernel), ⟨by decide +kernel, by decide +kernel, by decide +kernel⟩, by decide +kernel⟩
theorem mfX7_close : am_mV mX7_close 2 := ⟨moX7_close, am_wd (i := 1210) (by decide +kernel) (by decide +kernel), am_wd (i := 1211) (by decide +kernel) (by decide +kernel)⟩
abbrev mX7_good : am_Mi := (yX7_good, cX7_good, 6, (some .int))
theorem moX7_good : am_ok mX7_good 1 := ⟨am_wd (i := 1216) (by decide +kernel) (by decide +kernel), am_wd (i := 83) (by decide +kernel) (by decide +kernel), ⟨by decide +kernel, by decide +kernel, by decide +kernel⟩, by decide +kernel⟩
theorem mfX7_good : am_mV mX7_good 1 := ⟨moX7_good, am_wd (i := 1214) (by decide +kernel) (by decide +kernel), am_wd (i := 1215) (by decide +kernel) (by decide +kernel)⟩
abbrev mX7_alike : am_Mi := (yX7_alike, cX7_alike, 6, (some .long))
theorem moX7_alike : am_ok mX7_alike 3 := ⟨am_wd (i := 1221) (by decide +kernel) (by decide +kernel), am_wd (i := 83) (by decide +kernel) (by decide +kernel), ⟨by decide +kernel, by decide +kernel, by decide +kernel⟩, by decide +kernel⟩
theorem mfX7_alike : am_mV mX7_alike 3 := ⟨moX7_alike, am_wd (i := 1219) (by decide +kernel) (by decide +kernel), am_wd (i := 1220) (by decide +kernel) (by decide +kernel)⟩
abbrev mX7_lowest : am_Mi := (yX7_lowest, cX7_lowest, 11, (some .long))
theorem moX7_lowest : am_ok mX7_lowest 3 := ⟨am_wd (i := 1225) (by decide +kernel) (by decide +kernel), am_wd (i := 83) (by decide +kernel) (by decide +kernel), ⟨by decide +kernel, by decide +kernel, by decide +kernel⟩, by decide +kernel⟩
theorem mfX7_lowest : am_mS mX7_lowest 3 := ⟨moX7_lowest, am_wd (i := 1224) (by decide +kernel) (by decide +kernel)⟩
abbrev mX7_change : am_Mi := (yX7_change, cX7_change, 7, (some .int))
theorem moX7_change : am_ok mX7_change 1 := ⟨am_wd (i := 1229) (by decide +kernel) (by decide +kernel), am_wd (i := 83) (by decide +kernel) (by decide +kernel), ⟨by decide +kernel, by decide +kernel, by decide +kernel⟩, by decide +kernel⟩
theorem mfX7_change : am_mV mX7_change 1 := ⟨moX7_change, am_wd (i := 1227) (by decide +kernel) (by decide +kernel), am_wd (i := 1228) (by decide +kernel) (by decide +kernel)⟩
abbrev mX7_apartChanged : am_Mi := (yX7_apartChanged, cX7_apartChanged, 5, (some .int))
theorem moX7_apartChanged : am_ok mX7_apartChanged 2 := ⟨am_wd (i := 1233) (by decide +kernel) (by decide +kernel), am_wd (i := 83) (by decide +kernel) (by decide +kernel), ⟨by decide +kernel, by decide +kernel, by decide +kernel⟩, by decide +kernel⟩
theorem mfX7_apartChanged : am_mV mX7_apartChanged 2 := ⟨moX7_apartChanged, am_wd (i := 1232) (by decide +kernel) (by decide +kernel), am_wd (i := 65) (by decide +kernel) (by decide +kernel)⟩
abbrev mX7_judge : am_Mi := (yX7_judge, cX7_judge, 4, (some .int))
theorem moX7_judge : am_ok mX7_judge 2 := ⟨am_wd (i := 1237) (by decide +kernel) (by decide +kernel), am_wd (i := 83) (by decide +kernel) (by decide +kernel), ⟨by decide +kernel, by decide +kernel, by decide +kernel⟩, by decide +kernel⟩
theorem mfX7_judge : am_mV mX7_judge 2 := ⟨moX7_judge, am_wd (i := 1235) (by decide +kernel) (by decide +kernel), am_wd (i := 1236) (by decide +kernel) (by decide +kernel)⟩
abbrev mX7_sheetWrong : am_Mi := (yX7_sheetWrong, cX7_sheetWrong, 2, (some .int))
theorem moX7_sheetWrong : am_ok mX7_sheetWrong 1 := ⟨am_wd (i := 1241) (by decide +kernel) (by decide +kernel), am_wd (i := 83) (by decide +kernel) (by decide +kernel), ⟨by decide +kernel, by decide +kernel, by decide +kernel⟩, by decide +kernel⟩
theorem mfX7_sheetWrong : am_mV mX7_sheetWrong 1 := ⟨moX7_sheetWrong, am_wd (i := 1240) (by decide +kernel) (by decide +kernel), am_wd (i := 66) (by decide +kernel) (by decide +kernel)⟩
abbrev mX7_unlike : am_Mi := (yX7_unlike, cX7_unlike, 4, (some .int))
theorem moX7_unlike : am_ok mX7_unlike 2 := ⟨am_wd (i := 1245) (by decide +kernel) (by decide +kernel), am_wd (i := 83) (by decide +kernel) (by decide +kernel), ⟨by decide +kernel, by decide +kernel, by decide +kernel⟩, by decide +kernel⟩
theorem mfX7_unlike : am_mV mX7_unlike 2 := ⟨moX7_unlike, am_wd (i := 1244) (by decide +kernel) (by decide +kernel), am_wd (i := 67) (by decide +kernel) (by decide +kernel)⟩
abbrev mX7_whose : am_Mi := (yX7_whose, cX7_whose, 5, (some .int))
theorem moX7_whose : am_ok mX7_whose 1 := ⟨am_wd (i := 1249) (by decide +kernel) (by decide +kernel), am_wd (i := 83) (by decide +kernel) (by decide +kernel), ⟨by decide +kernel, by decide +kernel, by decide +kernel⟩, by decide +kernel⟩
theorem mfX7_whose : am_mV mX7_whose 1 := ⟨moX7_whose, am_wd (i := 1247) (by decide +kernel) (by decide +kernel), am_wd (i := 1248) (by decide +kernel) (by decide +kernel)⟩
abbrev mX7_depth : am_Mi := (yX7_depth, cX7_depth, 8, (some .int))
theorem moX7_depth : am_ok mX7_depth 3 := ⟨am_wd (i := 1253) (by decide +kernel) (by decide +kernel), am_wd (i := 83) (by decide +kernel) (by decide +kernel), ⟨by decide +kernel, by decide +kernel, by decide +kernel⟩, by decide +kernel⟩
theorem mfX7_depth : am_mV mX7_depth 3 := ⟨moX7_depth, am_wd (i := 1251) (by decide +kernel) (by decide +kernel), am_wd (i := 1252) (by decide +kernel) (by decide +kernel)⟩
abbrev mX7_laws : am_Mi := (yX7_laws, cX7_laws, 7, (some .int))
theorem moX7_laws : am_ok mX7_laws 2 := ⟨am_wd (i := 1257) (by decide +kernel) (by decide +kernel), am_wd (i := 83) (by decide +kernel) (by decide +kernel), ⟨by decide +kernel, by decide +kernel, by decide +kernel⟩, by decide +kernel⟩
theorem mfX7_laws : am_mV mX7_laws 2 := ⟨moX7_laws, am_wd (i := 1255) (by decide +kernel) (by decide +kernel), am_wd (i := 1256) (by decide +kernel) (by decide +kernel)⟩
abbrev mX7_film : am_Mi := (yX7_film, cX7_film, 4, (some .int))
theorem moX7_film : am_ok mX7_film 2 := ⟨am_wd (i := 1261) (by decide +kernel) (by decide +kernel), am_wd (i := 83) (by decide +kernel) (by decide +kernel), ⟨by decide +kernel, by decide +kernel, by decide +kernel⟩, by decide +kernel⟩
theorem mfX7_film : am_mV mX7_film 2 := ⟨moX7_film, am_wd (i := 1259) (by decide +kernel) (by decide +kernel), am_wd (i := 1260) (by decide +kernel) (by decide +kernel)⟩
abbrev mX7_drawn : am_Mi := (yX7_drawn, cX7_drawn, 2, (some .int))
theorem moX7_drawn : am_ok mX7_drawn 1 := ⟨am_wd (i := 1265) (by decide +kernel) (by decide +kernel), am_wd (i := 83) (by decide +kernel) (by decide +kernel), ⟨by decide +kernel, by decide +kernel, by decide +kernel⟩, by decide +kernel⟩
theorem mfX7_drawn : am_mV mX7_drawn 1 := ⟨moX7_drawn, am_wd (i := 1263) (by decide +kernel) (by decide +kernel), am_wd (i := 1264) (by decide +kernel) (by decide +kernel)⟩
abbrev mX7_winnerBy : am_Mi := (yX7_winnerBy, cX7_winnerBy, 6, (some .int))
theorem moX7_winnerBy : am_ok mX7_winnerBy 1 := ⟨am_wd (i := 1270) (by decide +kernel) (by decide +kernel), am_wd (i := 83) (by decide +kernel) (by decide +kernel), ⟨by decide +kernel, by decide +kernel, by decide +kernel⟩, by decide +kernel⟩
theorem mfX7_winnerBy : am_mV mX7_winnerBy 1 := ⟨moX7_winnerBy, am_wd (i := 1269) (by decide +kernel) (by decide +kernel), am_wd (i := 68) (by decide +kernel) (by decide +kernel)⟩
abbrev mX7_odds : am_Mi := (yX7_odds, cX7_odds, 8, (some .long))
theorem moX7_odds : am_ok mX7_odds 4 := ⟨am_wd (i := 1277) (by decide +kernel) (by decide +kernel), am_wd (i := 83) (by decide +kernel) (by decide +kernel), ⟨by decide +kernel, by decide +kernel, by decide +kernel⟩, by decide +kernel⟩
theorem mfX7_odds : am_mV mX7_odds 4 := ⟨moX7_odds, am_wd (i := 1275) (by decide +kernel) (by decide +kernel), am_wd (i := 1276) (by decide +kernel) (by decide +kernel)⟩
abbrev mX7_image : am_Mi := (yX7_image, cX7_image, 2, (some .int))
theorem moX7_image : am_ok mX7_image 0 := ⟨am_wd (i := 1281) (by decide +kernel) (by decide +kernel), am_wd (i := 83) (by decide +kernel) (by decide +kernel), ⟨by decide +kernel, by decide +kernel, by decide +kernel⟩, by decide +kernel⟩
theorem mfX7_image : am_mV mX7_image 0 := ⟨moX7_image, am_wd (i := 1279) (by decide +kernel) (by decide +kernel), am_wd (i := 1280) (by decide +kernel) (by decide +kernel)⟩
abbrev mX7_back : am_Mi := (yX7_back, cX7_back, 2, (some .int))
theorem moX7_back : am_ok mX7_back 0 := ⟨am_wd (i := 1285) (by decide +kernel) (by decide +kernel), am_wd (i := 83) (by decide +kernel) (by decide +kernel), ⟨by decide +kernel, by decide +kernel, by decide +kernel⟩, by decide +kernel⟩
theorem mfX7_back : am_mV mX7_back 0 := ⟨moX7_back, am_wd (i := 1283) (by decide +kernel) (by decide +kernel), am_wd (i := 1284) (by decide +kernel) (by decide +kernel)⟩
abbrev mX7_sheet : am_Mi := (yX7_sheet, cX7_sheet, 5, (some .int))
theorem moX7_sheet : am_ok mX7_sheet 3 := ⟨am_wd (i := 1289) (by decide +kernel) (by decide +kernel), am_wd (i := 83) (by decide +kernel) (by decide +kernel), ⟨by decide +kernel, by decide +kernel, by decide +kernel⟩, by decide +kernel⟩
theorem mfX7_sheet : am_mV mX7_sheet 3 := ⟨moX7_sheet, am_wd (i := 1287) (by decide +kernel) (by decide +kernel), am_wd (i := 1288) (by decide +kernel) (by decide +kernel)⟩
abbrev mX7_cell : am_Mi := (yX7_cell, cX7_cell, 4, (some .int))
theorem moX7_cell : am_ok mX7_cell 3 := ⟨am_wd (i := 1293) (by decide +kernel) (by decide +kernel), am_wd (i := 83) (by decide +kernel) (by decide +kernel), ⟨by decide +kernel, by decide +kernel, by decide +kernel⟩, by decide +kernel⟩
theorem mfX7_cell : am_mV mX7_cell 3 := ⟨moX7_cell, am_wd (i := 1291) (by decide +kernel) (by decide +kernel), am_wd (i := 1292) (by decide +kernel) (by decide +kernel)⟩
abbrev mX7_copy : am_Mi := (yX7_copy, cX7_copy, 10, (some .int))
theorem moX7_copy : am_ok mX7_copy 5 := ⟨am_wd (i := 1297) (by decide +kernel) (by decide +kernel), am_wd (i := 83) (by decide +kernel) (by decide +kernel), ⟨by decide +kernel, by decide +kernel, by decide +kernel⟩, by decide +kernel⟩
theorem mfX7_copy : am_mV mX7_copy 5 := ⟨moX7_copy, am_wd (i := 1295) (by decide +kernel) (by decide +kernel), am_wd (i := 1296) (by decide +kernel) (by decide +kernel)⟩
abbrev mX7_depthsBy : am_Mi := (yX7_depthsBy, cX7_depthsBy, 9, (some .int))
theorem moX7_depthsBy : am_ok mX7_depthsBy 4 := ⟨am_wd (i := 1301) (by decide +kernel) (by decide +kernel), am_wd (i := 83) (by decide +kernel) (by decide +kernel), ⟨by decide +kernel, by decide +kernel, by decide +kernel⟩, by decide +kernel⟩
theorem mfX7_depthsBy : am_mV mX7_depthsBy 4 := ⟨moX7_depthsBy, am_wd (i := 1299) (by decide +kernel) (by decide +kernel), am_wd (i := 1300) (by decide +kernel) (by decide +kernel)⟩
abbrev mX7_taken : am_Mi := (yX7_taken, cX7_taken, 3, (some .int))
theorem moX7_taken : am_ok mX7_taken 2 := ⟨am_wd (i := 1306) (by decide +kernel) (by decide +kernel), am_wd (i := 83) (by decide +kernel) (by decide +kernel), ⟨by decide +kernel, by decide +kernel, by decide +kernel⟩, by decide +kernel⟩
theorem mfX7_taken : am_mV mX7_taken 2 := ⟨moX7_taken, am_wd (i := 1304) (by decide +kernel) (by decide +kernel), am_wd (i := 1305) (by decide +kernel) (by decide +kernel)⟩
abbrev mX7_isUnder : am_Mi := (yX7_isUnder, cX7_isUnder, 2, (some .boolean))
theorem moX7_isUnder : am_ok mX7_isUnder 2 := ⟨am_wd (i := 1309) (by decide +kernel) (by decide +kernel), am_wd (i := 83) (by decide +kernel) (by decide +kernel), ⟨by decide +kernel, by decide +kernel, by decide +kernel⟩, by decide +kernel⟩
theorem mfX7_isUnder : am_mS mX7_isUnder 2 := ⟨moX7_isUnder, am_wd (i := 1308) (by decide +kernel) (by decide +kernel)⟩
theorem lk_L_9 : Cond.methodLink RL 9 yX6_init ∈ am_tbl := am_wd (i := 88) (by decide +kernel) (by decide +kernel)
theorem lk_X6_1 : Cond.methodLink RX6 1 Lib.objectInit ∈ am_tbl := am_wd (i := 91) (by decide +kernel) (by decide +kernel)
theorem lk_X6_33 : Cond.methodLinkNest RX6 33 yX4_init RX6 ∈ am_nest := List.mem_of_getElem? (i := 0) (by decide +kernel)
theorem lk_X4_1 : Cond.methodLink RX4 1 Lib.objectInit ∈ am_tbl := am_wd (i := 103) (by decide +kernel) (by decide +kernel)
theorem lk_X6_40 : Cond.methodLinkNest RX6 40 yX3_init RX6 ∈ am_nest := List.mem_of_getElem? (i := 3) (by decide +kernel)
theorem lk_X3_1 : Cond.methodLink RX3 1 Lib.objectInit ∈ am_tbl := am_wd (i := 135) (by decide +kernel) (by decide +kernel)
theorem lk_X6_47 : Cond.methodLinkNest RX6 47 yX2_init RX6 ∈ am_nest := List.mem_of_getElem? (i := 7) (by decide +kernel)
theorem lk_X2_3 : Cond.methodLink RX2 3 Lib.objectInit ∈ am_tbl := am_wd (i := 154) (by decide +kernel) (by decide +kernel)
theorem lk_X6_54 : Cond.methodLinkNest RX6 54 yX0_init RX6 ∈ am_nest := List.mem_of_getElem? (i := 15) (by decide +kernel)
theorem lk_X0_3 : Cond.methodLink RX0 3 Lib.objectInit ∈ am_tbl := am_wd (i := 185) (by decide +kernel) (by decide +kernel)
theorem lk_X6_70 : Cond.methodLink RX6 70 yX4_write ∈ am_tbl := am_wd (i := 203) (by decide +kernel) (by decide +kernel)
theorem lk_X4_20 : Cond.methodLink RX4 20 yJ0_length_8abf5 ∈ am_tbl := am_wd (i := 207) (by decide +kernel) (by decide +kernel)
theorem lk_J0_335 : Cond.methodLink RJ0 335 yJ0_coder_7d493 ∈ am_tbl := am_wd (i := 211) (by decide +kernel) (by decide +kernel)
theorem lk_X4_26 : Cond.methodLink RX4 26 yJ0_charAt_5068e ∈ am_tbl := am_wd (i := 217) (by decide +kernel) (by decide +kernel)
theorem lk_J0_492 : Cond.methodLink RJ0 492 yJ0_isLatin1_aae02 ∈ am_tbl := am_wd (i := 221) (by decide +kernel) (by decide +kernel)
theorem lk_J0_495 : Cond.methodLink RJ0 495 yJ1_charAt_3b067 ∈ am_tbl := am_wd (i := 225) (by decide +kernel) (by decide +kernel)
theorem lk_J1_9 : Cond.methodLink RJ1 9 yJ0_checkIndex_df160 ∈ am_tbl := am_wd (i := 228) (by decide +kernel) (by decide +kernel)
theorem lk_J0_1059 : Cond.methodLink RJ0 1059 yJ3_checkIndex_8e157 ∈ am_tbl := am_wd (i := 233) (by decide +kernel) (by decide +kernel)
theorem lk_J0_498 : Cond.methodLink RJ0 498 yJ2_charAt_3b067 ∈ am_tbl := am_wd (i := 236) (by decide +kernel) (by decide +kernel)
theorem lk_J2_67 : Cond.methodLink RJ2 67 yJ2_checkIndex_2214a ∈ am_tbl := am_wd (i := 239) (by decide +kernel) (by decide +kernel)
theorem lk_J2_48 : Cond.methodLink RJ2 48 yJ2_length_9d52b ∈ am_tbl := am_wd (i := 242) (by decide +kernel) (by decide +kernel)
theorem lk_J2_414 : Cond.methodLink RJ2 414 yJ0_checkIndex_df160 ∈ am_tbl := am_wd (i := 245) (by decide +kernel) (by decide +kernel)
theorem lk_J2_71 : Cond.methodLink RJ2 71 yJ2_getChar_3b067 ∈ am_tbl := am_wd (i := 246) (by decide +kernel) (by decide +kernel)
theorem lk_X4_30 : Cond.methodLink RX4 30 yX4_put ∈ am_tbl := am_wd (i := 255) (by decide +kernel) (by decide +kernel)
theorem lk_X6_74 : Cond.methodLink RX6 74 yX4_read ∈ am_tbl := am_wd (i := 259) (by decide +kernel) (by decide +kernel)
theorem lk_X4_40 : Cond.methodLink RX4 40 yX4_next ∈ am_tbl := am_wd (i := 263) (by decide +kernel) (by decide +kernel)
theorem lk_X4_85 : Cond.methodLink RX4 85 yX4_byteAt ∈ am_tbl := am_wd (i := 267) (by decide +kernel) (by decide +kernel)
theorem lk_X4_89 : Cond.methodLink RX4 89 yX4_isBlank ∈ am_tbl := am_wd (i := 271) (by decide +kernel) (by decide +kernel)
theorem lk_X4_95 : Cond.methodLink RX4 95 yX4_isLetter ∈ am_tbl := am_wd (i := 274) (by decide +kernel) (by decide +kernel)
theorem lk_X4_98 : Cond.methodLink RX4 98 yX4_word ∈ am_tbl := am_wd (i := 277) (by decide +kernel) (by decide +kernel)
theorem lk_X4_112 : Cond.methodLink RX4 112 yX4_isWord ∈ am_tbl := am_wd (i := 282) (by decide +kernel) (by decide +kernel)
theorem lk_X4_101 : Cond.methodLink RX4 101 yX4_isDigit ∈ am_tbl := am_wd (i := 297) (by decide +kernel) (by decide +kernel)
theorem lk_X4_104 : Cond.methodLink RX4 104 yX4_number ∈ am_tbl := am_wd (i := 300) (by decide +kernel) (by decide +kernel)
theorem lk_X4_107 : Cond.methodLink RX4 107 yX4_sign ∈ am_tbl := am_wd (i := 304) (by decide +kernel) (by decide +kernel)
theorem lk_X4_43 : Cond.methodLink RX4 43 yX4_readPart ∈ am_tbl := am_wd (i := 307) (by decide +kernel) (by decide +kernel)
theorem lk_X4_61 : Cond.methodLink RX4 61 yX4_took ∈ am_tbl := am_wd (i := 311) (by decide +kernel) (by decide +kernel)
theorem lk_X4_64 : Cond.methodLink RX4 64 yX4_readE ∈ am_tbl := am_wd (i := 315) (by decide +kernel) (by decide +kernel)
theorem lk_X4_67 : Cond.methodLink RX4 67 yX4_readAnd ∈ am_tbl := am_wd (i := 319) (by decide +kernel) (by decide +kernel)
theorem lk_X4_73 : Cond.methodLink RX4 73 yX4_readNot ∈ am_tbl := am_wd (i := 323) (by decide +kernel) (by decide +kernel)
theorem lk_X4_70 : Cond.methodLink RX4 70 yX4_step ∈ am_tbl := am_wd (i := 327) (by decide +kernel) (by decide +kernel)
theorem lk_X4_76 : Cond.methodLink RX4 76 yX4_readSum ∈ am_tbl := am_wd (i := 331) (by decide +kernel) (by decide +kernel)
theorem lk_X4_79 : Cond.methodLink RX4 79 yX4_readTerm ∈ am_tbl := am_wd (i := 335) (by decide +kernel) (by decide +kernel)
theorem lk_X4_82 : Cond.methodLink RX4 82 yX4_readOne ∈ am_tbl := am_wd (i := 339) (by decide +kernel) (by decide +kernel)
theorem lk_X4_52 : Cond.methodLink RX4 52 yJ7_copyOf_59c91 ∈ am_tbl := am_wd (i := 345) (by decide +kernel) (by decide +kernel)
theorem lk_J7_304 : Cond.methodLink RJ7 304 yJ9_min_7cf53 ∈ am_tbl := am_wd (i := 355) (by decide +kernel) (by decide +kernel)
theorem lk_X4_58 : Cond.methodLink RX4 58 yX5_init ∈ am_tbl := am_wd (i := 361) (by decide +kernel) (by decide +kernel)
theorem lk_X5_3 : Cond.methodLink RX5 3 Lib.objectInit ∈ am_tbl := am_wd (i := 364) (by decide +kernel) (by decide +kernel)
theorem lk_X6_78 : Cond.methodLink RX6 78 yX4_clear ∈ am_tbl := am_wd (i := 379) (by decide +kernel) (by decide +kernel)
theorem lk_L_13 : Cond.methodLink RL 13 yX6_count ∈ am_tbl := am_wd (i := 432) (by decide +kernel) (by decide +kernel)
theorem lk_L_18 : Cond.methodLink RL 18 yX6_feed ∈ am_tbl := am_wd (i := 436) (by decide +kernel) (by decide +kernel)
theorem lk_X6_97 : Cond.methodLink RX6 97 yX6_isByte ∈ am_tbl := am_wd (i := 440) (by decide +kernel) (by decide +kernel)
theorem lk_X6_101 : Cond.methodLink RX6 101 yX4_put ∈ am_tbl := am_wd (i := 443) (by decide +kernel) (by decide +kernel)
theorem lk_L_23 : Cond.methodLink RL 23 yX6_text ∈ am_tbl := am_wd (i := 444) (by decide +kernel) (by decide +kernel)
theorem lk_L_28 : Cond.methodLink RL 28 yX6_force ∈ am_tbl := am_wd (i := 448) (by decide +kernel) (by decide +kernel)
theorem lk_L_32 : Cond.methodLink RL 32 yX6_asks ∈ am_tbl := am_wd (i := 452) (by decide +kernel) (by decide +kernel)
theorem lk_X6_108 : Cond.methodLink RX6 108 yX6_lawText ∈ am_tbl := am_wd (i := 456) (by decide +kernel) (by decide +kernel)
theorem lk_X6_111 : Cond.methodLink RX6 111 yX6_name ∈ am_tbl := am_wd (i := 460) (by decide +kernel) (by decide +kernel)
theorem lk_X6_115 : Cond.methodLink RX6 115 yX6_nameMore ∈ am_tbl := am_wd (i := 463) (by decide +kernel) (by decide +kernel)
theorem lk_X6_118 : Cond.methodLink RX6 118 yX5_says ∈ am_tbl := am_wd (i := 466) (by decide +kernel) (by decide +kernel)
theorem lk_X5_25 : Cond.methodLink RX5 25 yX5_valueOf ∈ am_tbl := am_wd (i := 470) (by decide +kernel) (by decide +kernel)
theorem lk_X5_33 : Cond.methodLink RX5 33 yX5_joined ∈ am_tbl := am_wd (i := 474) (by decide +kernel) (by decide +kernel)
theorem lk_X5_29 : Cond.methodLinkNest RX5 29 yX6_bounded RX6 ∈ am_nest := List.mem_of_getElem? (i := 16) (by decide +kernel)
theorem lk_X6_295 : Cond.methodLink RX6 295 yJ9_min_7cf53 ∈ am_tbl := am_wd (i := 480) (by decide +kernel) (by decide +kernel)
theorem lk_X6_300 : Cond.methodLink RX6 300 yJ9_max_7cf53 ∈ am_tbl := am_wd (i := 481) (by decide +kernel) (by decide +kernel)
theorem lk_L_37 : Cond.methodLink RL 37 yX6_come ∈ am_tbl := am_wd (i := 484) (by decide +kernel) (by decide +kernel)
theorem lk_X6_122 : Cond.methodLink RX6 122 yX6_isTableOrNone ∈ am_tbl := am_wd (i := 488) (by decide +kernel) (by decide +kernel)
theorem lk_X6_161 : Cond.methodLink RX6 161 yX6_isTable ∈ am_tbl := am_wd (i := 491) (by decide +kernel) (by decide +kernel)
theorem lk_X6_125 : Cond.methodLink RX6 125 yX1_init ∈ am_tbl := am_wd (i := 495) (by decide +kernel) (by decide +kernel)
theorem lk_X1_3 : Cond.methodLink RX1 3 Lib.objectInit ∈ am_tbl := am_wd (i := 498) (by decide +kernel) (by decide +kernel)
theorem lk_L_42 : Cond.methodLink RL 42 yX6_learn ∈ am_tbl := am_wd (i := 519) (by decide +kernel) (by decide +kernel)
theorem lk_X6_128 : Cond.methodLink RX6 128 yX6_personAt ∈ am_tbl := am_wd (i := 523) (by decide +kernel) (by decide +kernel)
theorem lk_X6_132 : Cond.methodLink RX6 132 yX6_isTopic ∈ am_tbl := am_wd (i := 527) (by decide +kernel) (by decide +kernel)
theorem lk_X6_135 : Cond.methodLink RX6 135 yX1_deepAt ∈ am_tbl := am_wd (i := 530) (by decide +kernel) (by decide +kernel)
theorem lk_X1_31 : Cond.methodLinkNest RX1 31 yX6_isTopic RX6 ∈ am_nest := List.mem_of_getElem? (i := 21) (by decide +kernel)
theorem lk_X6_139 : Cond.methodLink RX6 139 yX1_becomeDeep ∈ am_tbl := am_wd (i := 535) (by decide +kernel) (by decide +kernel)
theorem lk_X1_35 : Cond.methodLinkNest RX1 35 yX6_bounded RX6 ∈ am_nest := List.mem_of_getElem? (i := 22) (by decide +kernel)
theorem lk_L_46 : Cond.methodLink RL 46 yX6_sit ∈ am_tbl := am_wd (i := 540) (by decide +kernel) (by decide +kernel)
theorem lk_L_51 : Cond.methodLink RL 51 yX6_told ∈ am_tbl := am_wd (i := 544) (by decide +kernel) (by decide +kernel)
theorem lk_L_55 : Cond.methodLink RL 55 yX6_question ∈ am_tbl := am_wd (i := 548) (by decide +kernel) (by decide +kernel)
theorem lk_L_59 : Cond.methodLink RL 59 yX6_askedOf ∈ am_tbl := am_wd (i := 552) (by decide +kernel) (by decide +kernel)
theorem lk_X6_155 : Cond.methodLink RX6 155 yX6_isQuestion ∈ am_tbl := am_wd (i := 556) (by decide +kernel) (by decide +kernel)
theorem lk_X6_158 : Cond.methodLink RX6 158 yX6_isZeroOrOne ∈ am_tbl := am_wd (i := 560) (by decide +kernel) (by decide +kernel)
theorem lk_L_63 : Cond.methodLink RL 63 yX6_lay ∈ am_tbl := am_wd (i := 563) (by decide +kernel) (by decide +kernel)
theorem lk_L_67 : Cond.methodLink RL 67 yX6_laid ∈ am_tbl := am_wd (i := 567) (by decide +kernel) (by decide +kernel)
theorem lk_L_71 : Cond.methodLink RL 71 yX6_answer ∈ am_tbl := am_wd (i := 571) (by decide +kernel) (by decide +kernel)
theorem lk_X6_164 : Cond.methodLink RX6 164 yX6_reckon ∈ am_tbl := am_wd (i := 575) (by decide +kernel) (by decide +kernel)
theorem lk_X6_303 : Cond.methodLink RX6 303 yX0_reckonPoints ∈ am_tbl := am_wd (i := 579) (by decide +kernel) (by decide +kernel)
theorem lk_X0_26 : Cond.methodLink RX0 26 yJ9_min_7cf53 ∈ am_tbl := am_wd (i := 583) (by decide +kernel) (by decide +kernel)
theorem lk_X0_32 : Cond.methodLinkNest RX0 32 yX6_bounded RX6 ∈ am_nest := List.mem_of_getElem? (i := 23) (by decide +kernel)
theorem lk_X0_40 : Cond.methodLinkNest RX0 40 yX6_name RX6 ∈ am_nest := List.mem_of_getElem? (i := 24) (by decide +kernel)
theorem lk_X0_44 : Cond.methodLinkNest RX0 44 yX6_nameMore RX6 ∈ am_nest := List.mem_of_getElem? (i := 25) (by decide +kernel)
theorem lk_X0_47 : Cond.methodLink RX0 47 yX5_says ∈ am_tbl := am_wd (i := 587) (by decide +kernel) (by decide +kernel)
theorem lk_X6_307 : Cond.methodLink RX6 307 yX0_reckonPerson ∈ am_tbl := am_wd (i := 588) (by decide +kernel) (by decide +kernel)
theorem lk_X0_51 : Cond.methodLink RX0 51 yX1_knows ∈ am_tbl := am_wd (i := 592) (by decide +kernel) (by decide +kernel)
theorem lk_X1_39 : Cond.methodLink RX1 39 yX1_deepAt ∈ am_tbl := am_wd (i := 596) (by decide +kernel) (by decide +kernel)
theorem lk_X1_43 : Cond.methodLink RX1 43 yX1_isOf ∈ am_tbl := am_wd (i := 597) (by decide +kernel) (by decide +kernel)
theorem lk_X1_46 : Cond.methodLink RX1 46 yX1_isOwn ∈ am_tbl := am_wd (i := 603) (by decide +kernel) (by decide +kernel)
theorem lk_X0_56 : Cond.methodLink RX0 56 yX1_loudAt ∈ am_tbl := am_wd (i := 607) (by decide +kernel) (by decide +kernel)
theorem lk_X6_311 : Cond.methodLink RX6 311 yX6_findRights ∈ am_tbl := am_wd (i := 611) (by decide +kernel) (by decide +kernel)
theorem lk_X6_167 : Cond.methodLink RX6 167 yX6_seatedAt ∈ am_tbl := am_wd (i := 615) (by decide +kernel) (by decide +kernel)
theorem lk_X6_314 : Cond.methodLink RX6 314 yX0_rightOf ∈ am_tbl := am_wd (i := 619) (by decide +kernel) (by decide +kernel)
theorem lk_X0_63 : Cond.methodLink RX0 63 yX0_believed ∈ am_tbl := am_wd (i := 623) (by decide +kernel) (by decide +kernel)
theorem lk_X6_170 : Cond.methodLink RX6 170 yX0_believed ∈ am_tbl := am_wd (i := 627) (by decide +kernel) (by decide +kernel)
theorem lk_X6_174 : Cond.methodLink RX6 174 yX0_ableOf ∈ am_tbl := am_wd (i := 628) (by decide +kernel) (by decide +kernel)
theorem lk_L_75 : Cond.methodLink RL 75 yX6_score ∈ am_tbl := am_wd (i := 632) (by decide +kernel) (by decide +kernel)
theorem lk_X6_177 : Cond.methodLink RX6 177 yX6_scoreNow ∈ am_tbl := am_wd (i := 636) (by decide +kernel) (by decide +kernel)
theorem lk_X6_190 : Cond.methodLink RX6 190 yX0_worth ∈ am_tbl := am_wd (i := 640) (by decide +kernel) (by decide +kernel)
theorem lk_X6_180 : Cond.methodLink RX6 180 yX0_coveredBy ∈ am_tbl := am_wd (i := 644) (by decide +kernel) (by decide +kernel)
theorem lk_X0_60 : Cond.methodLink RX0 60 yX0_ableOf ∈ am_tbl := am_wd (i := 648) (by decide +kernel) (by decide +kernel)
theorem lk_L_79 : Cond.methodLink RL 79 yX6_evening ∈ am_tbl := am_wd (i := 649) (by decide +kernel) (by decide +kernel)
theorem lk_X6_183 : Cond.methodLink RX6 183 yX6_winner ∈ am_tbl := am_wd (i := 653) (by decide +kernel) (by decide +kernel)
theorem lk_X6_187 : Cond.methodLink RX6 187 yX6_apartBy ∈ am_tbl := am_wd (i := 657) (by decide +kernel) (by decide +kernel)
theorem lk_L_83 : Cond.methodLink RL 83 yX6_best ∈ am_tbl := am_wd (i := 661) (by decide +kernel) (by decide +kernel)
theorem lk_L_87 : Cond.methodLink RL 87 yX6_join ∈ am_tbl := am_wd (i := 665) (by decide +kernel) (by decide +kernel)
theorem lk_X6_193 : Cond.methodLink RX6 193 yX6_scoreIf ∈ am_tbl := am_wd (i := 669) (by decide +kernel) (by decide +kernel)
theorem lk_L_91 : Cond.methodLink RL 91 yX6_leave ∈ am_tbl := am_wd (i := 673) (by decide +kernel) (by decide +kernel)
theorem lk_L_95 : Cond.methodLink RL 95 yX6_cover ∈ am_tbl := am_wd (i := 677) (by decide +kernel) (by decide +kernel)
theorem lk_X6_196 : Cond.methodLink RX6 196 yJ6_bitCount_0f7a4 ∈ am_tbl := am_wd (i := 681) (by decide +kernel) (by decide +kernel)
theorem lk_L_99 : Cond.methodLink RL 99 yX6_hire ∈ am_tbl := am_wd (i := 687) (by decide +kernel) (by decide +kernel)
theorem lk_X6_201 : Cond.methodLink RX6 201 yX6_costOf ∈ am_tbl := am_wd (i := 691) (by decide +kernel) (by decide +kernel)
theorem lk_X6_321 : Cond.methodLink RX6 321 yX1_deepestTopic ∈ am_tbl := am_wd (i := 695) (by decide +kernel) (by decide +kernel)
theorem lk_L_103 : Cond.methodLink RL 103 yX6_price ∈ am_tbl := am_wd (i := 699) (by decide +kernel) (by decide +kernel)
theorem lk_L_107 : Cond.methodLink RL 107 yX6_close ∈ am_tbl := am_wd (i := 703) (by decide +kernel) (by decide +kernel)
theorem lk_L_111 : Cond.methodLink RL 111 yX6_good ∈ am_tbl := am_wd (i := 707) (by decide +kernel) (by decide +kernel)
theorem lk_X6_206 : Cond.methodLink RX6 206 yJ6_compare_7cf53 ∈ am_tbl := am_wd (i := 712) (by decide +kernel) (by decide +kernel)
theorem lk_L_115 : Cond.methodLink RL 115 yX6_alike ∈ am_tbl := am_wd (i := 715) (by decide +kernel) (by decide +kernel)
theorem lk_X6_211 : Cond.methodLink RX6 211 yX6_lowest ∈ am_tbl := am_wd (i := 720) (by decide +kernel) (by decide +kernel)
theorem lk_L_120 : Cond.methodLink RL 120 yX6_change ∈ am_tbl := am_wd (i := 723) (by decide +kernel) (by decide +kernel)
theorem lk_X6_215 : Cond.methodLink RX6 215 yX6_apartIfChanged ∈ am_tbl := am_wd (i := 727) (by decide +kernel) (by decide +kernel)
theorem lk_X6_317 : Cond.methodLink RX6 317 yX6_changePlaces ∈ am_tbl := am_wd (i := 731) (by decide +kernel) (by decide +kernel)
theorem lk_L_124 : Cond.methodLink RL 124 yX6_judge ∈ am_tbl := am_wd (i := 734) (by decide +kernel) (by decide +kernel)
theorem lk_X6_219 : Cond.methodLink RX6 219 yX6_refusalOfTold ∈ am_tbl := am_wd (i := 738) (by decide +kernel) (by decide +kernel)
theorem lk_X6_225 : Cond.methodLink RX6 225 yX6_sheetAt ∈ am_tbl := am_wd (i := 742) (by decide +kernel) (by decide +kernel)
theorem lk_X6_268 : Cond.methodLink RX6 268 yX3_isMissing ∈ am_tbl := am_wd (i := 746) (by decide +kernel) (by decide +kernel)
theorem lk_X6_222 : Cond.methodLink RX6 222 yX6_firstOtherwise ∈ am_tbl := am_wd (i := 750) (by decide +kernel) (by decide +kernel)
theorem lk_X6_285 : Cond.methodLink RX6 285 yX3_get ∈ am_tbl := am_wd (i := 754) (by decide +kernel) (by decide +kernel)
theorem lk_X3_32 : Cond.methodLink RX3 32 yX3_has ∈ am_tbl := am_wd (i := 758) (by decide +kernel) (by decide +kernel)
theorem lk_L_128 : Cond.methodLink RL 128 yX6_whose ∈ am_tbl := am_wd (i := 762) (by decide +kernel) (by decide +kernel)
theorem lk_L_132 : Cond.methodLink RL 132 yX6_depth ∈ am_tbl := am_wd (i := 766) (by decide +kernel) (by decide +kernel)
theorem lk_L_136 : Cond.methodLink RL 136 yX6_laws ∈ am_tbl := am_wd (i := 770) (by decide +kernel) (by decide +kernel)
theorem lk_L_140 : Cond.methodLink RL 140 yX6_film ∈ am_tbl := am_wd (i := 774) (by decide +kernel) (by decide +kernel)
theorem lk_X6_229 : Cond.methodLink RX6 229 yX3_become ∈ am_tbl := am_wd (i := 778) (by decide +kernel) (by decide +kernel)
theorem lk_X3_17 : Cond.methodLinkNest RX3 17 yX6_bounded RX6 ∈ am_nest := List.mem_of_getElem? (i := 26) (by decide +kernel)
theorem lk_X3_26 : Cond.methodLink RX3 26 yJ7_fill_53178 ∈ am_tbl := am_wd (i := 783) (by decide +kernel) (by decide +kernel)
theorem lk_X6_232 : Cond.methodLink RX6 232 yX3_put ∈ am_tbl := am_wd (i := 786) (by decide +kernel) (by decide +kernel)
theorem lk_L_144 : Cond.methodLink RL 144 yX6_drawn ∈ am_tbl := am_wd (i := 790) (by decide +kernel) (by decide +kernel)
theorem lk_X6_235 : Cond.methodLink RX6 235 yX6_winnerBy ∈ am_tbl := am_wd (i := 795) (by decide +kernel) (by decide +kernel)
theorem lk_X6_245 : Cond.methodLink RX6 245 yX6_keepDepths ∈ am_tbl := am_wd (i := 799) (by decide +kernel) (by decide +kernel)
theorem lk_X6_265 : Cond.methodLink RX6 265 yX6_giveDepths ∈ am_tbl := am_wd (i := 806) (by decide +kernel) (by decide +kernel)
theorem lk_L_148 : Cond.methodLink RL 148 yX6_odds ∈ am_tbl := am_wd (i := 810) (by decide +kernel) (by decide +kernel)
theorem lk_L_153 : Cond.methodLink RL 153 yX6_image ∈ am_tbl := am_wd (i := 814) (by decide +kernel) (by decide +kernel)
theorem lk_L_157 : Cond.methodLink RL 157 yX6_back ∈ am_tbl := am_wd (i := 819) (by decide +kernel) (by decide +kernel)
theorem lk_L_161 : Cond.methodLink RL 161 yX6_sheet ∈ am_tbl := am_wd (i := 823) (by decide +kernel) (by decide +kernel)
theorem lk_L_165 : Cond.methodLink RL 165 yX6_cell ∈ am_tbl := am_wd (i := 827) (by decide +kernel) (by decide +kernel)
theorem lk_X6_272 : Cond.methodLink RX6 272 yX3_has ∈ am_tbl := am_wd (i := 831) (by decide +kernel) (by decide +kernel)
theorem lk_L_169 : Cond.methodLink RL 169 yX6_copy ∈ am_tbl := am_wd (i := 832) (by decide +kernel) (by decide +kernel)
theorem lk_X6_278 : Cond.methodLink RX6 278 yX3_hasRow ∈ am_tbl := am_wd (i := 836) (by decide +kernel) (by decide +kernel)
theorem lk_L_173 : Cond.methodLink RL 173 yX6_depthsBy ∈ am_tbl := am_wd (i := 840) (by decide +kernel) (by decide +kernel)
theorem lk_X6_288 : Cond.methodLink RX6 288 yX6_learn ∈ am_tbl := am_wd (i := 844) (by decide +kernel) (by decide +kernel)
theorem lk_L_178 : Cond.methodLink RL 178 yX6_taken ∈ am_tbl := am_wd (i := 845) (by decide +kernel) (by decide +kernel)
theorem lk_X6_292 : Cond.methodLink RX6 292 yX1_isOf ∈ am_tbl := am_wd (i := 849) (by decide +kernel) (by decide +kernel)
theorem lk_L_12 : Cond.methodLink RL 12 yX7_init ∈ am_tbl := am_wd (i := 852) (by decide +kernel) (by decide +kernel)
theorem lk_X7_1 : Cond.methodLink RX7 1 Lib.objectInit ∈ am_tbl := am_wd (i := 855) (by decide +kernel) (by decide +kernel)
theorem lk_X7_83 : Cond.methodLink RX7 83 yX7_text ∈ am_tbl := am_wd (i := 856) (by decide +kernel) (by decide +kernel)
theorem lk_X7_146 : Cond.methodLink RX7 146 yX7_next ∈ am_tbl := am_wd (i := 860) (by decide +kernel) (by decide +kernel)
theorem lk_X7_90 : Cond.methodLink RX7 90 yX7_in ∈ am_tbl := am_wd (i := 864) (by decide +kernel) (by decide +kernel)
theorem lk_X7_119 : Cond.methodLink RX7 119 yX7_wordFrom ∈ am_tbl := am_wd (i := 867) (by decide +kernel) (by decide +kernel)
theorem lk_X7_159 : Cond.methodLink RX7 159 yX7_eRead ∈ am_tbl := am_wd (i := 871) (by decide +kernel) (by decide +kernel)
theorem lk_X7_136 : Cond.methodLink RX7 136 yX7_puts ∈ am_tbl := am_wd (i := 876) (by decide +kernel) (by decide +kernel)
theorem lk_X7_143 : Cond.methodLink RX7 143 yX7_unwinds ∈ am_tbl := am_wd (i := 880) (by decide +kernel) (by decide +kernel)
theorem lk_X7_129 : Cond.methodLink RX7 129 yX7_rank ∈ am_tbl := am_wd (i := 884) (by decide +kernel) (by decide +kernel)
theorem lk_X7_150 : Cond.methodLink RX7 150 yX7_opensOne ∈ am_tbl := am_wd (i := 887) (by decide +kernel) (by decide +kernel)
theorem lk_X7_140 : Cond.methodLink RX7 140 yX7_holds ∈ am_tbl := am_wd (i := 891) (by decide +kernel) (by decide +kernel)
theorem lk_X7_153 : Cond.methodLink RX7 153 yX7_signOf ∈ am_tbl := am_wd (i := 895) (by decide +kernel) (by decide +kernel)
theorem lk_X7_156 : Cond.methodLink RX7 156 yX7_between ∈ am_tbl := am_wd (i := 899) (by decide +kernel) (by decide +kernel)
theorem lk_L_17 : Cond.methodLink RL 17 yX7_count ∈ am_tbl := am_wd (i := 1021) (by decide +kernel) (by decide +kernel)
theorem lk_L_22 : Cond.methodLink RL 22 yX7_feed ∈ am_tbl := am_wd (i := 1025) (by decide +kernel) (by decide +kernel)
theorem lk_X7_103 : Cond.methodLink RX7 103 yX7_isByte ∈ am_tbl := am_wd (i := 1029) (by decide +kernel) (by decide +kernel)
theorem lk_L_27 : Cond.methodLink RL 27 yX7_text ∈ am_tbl := am_wd (i := 1032) (by decide +kernel) (by decide +kernel)
theorem lk_L_31 : Cond.methodLink RL 31 yX7_force ∈ am_tbl := am_wd (i := 1033) (by decide +kernel) (by decide +kernel)
theorem lk_L_36 : Cond.methodLink RL 36 yX7_asks ∈ am_tbl := am_wd (i := 1037) (by decide +kernel) (by decide +kernel)
theorem lk_X7_173 : Cond.methodLink RX7 173 yX7_asksOf ∈ am_tbl := am_wd (i := 1041) (by decide +kernel) (by decide +kernel)
theorem lk_X7_167 : Cond.methodLink RX7 167 yX7_says ∈ am_tbl := am_wd (i := 1045) (by decide +kernel) (by decide +kernel)
theorem lk_X7_163 : Cond.methodLink RX7 163 yX7_two ∈ am_tbl := am_wd (i := 1049) (by decide +kernel) (by decide +kernel)
theorem lk_X7_170 : Cond.methodLink RX7 170 yX7_within ∈ am_tbl := am_wd (i := 1052) (by decide +kernel) (by decide +kernel)
theorem lk_L_41 : Cond.methodLink RL 41 yX7_come ∈ am_tbl := am_wd (i := 1055) (by decide +kernel) (by decide +kernel)
theorem lk_L_45 : Cond.methodLink RL 45 yX7_learn ∈ am_tbl := am_wd (i := 1059) (by decide +kernel) (by decide +kernel)
theorem lk_X7_177 : Cond.methodLink RX7 177 yX7_isOne ∈ am_tbl := am_wd (i := 1063) (by decide +kernel) (by decide +kernel)
theorem lk_L_50 : Cond.methodLink RL 50 yX7_sit ∈ am_tbl := am_wd (i := 1067) (by decide +kernel) (by decide +kernel)
theorem lk_L_54 : Cond.methodLink RL 54 yX7_told ∈ am_tbl := am_wd (i := 1071) (by decide +kernel) (by decide +kernel)
theorem lk_L_58 : Cond.methodLink RL 58 yX7_question ∈ am_tbl := am_wd (i := 1075) (by decide +kernel) (by decide +kernel)
theorem lk_L_62 : Cond.methodLink RL 62 yX7_askedOf ∈ am_tbl := am_wd (i := 1079) (by decide +kernel) (by decide +kernel)
theorem lk_X7_180 : Cond.methodLink RX7 180 yX7_isQuestion ∈ am_tbl := am_wd (i := 1083) (by decide +kernel) (by decide +kernel)
theorem lk_L_66 : Cond.methodLink RL 66 yX7_lay ∈ am_tbl := am_wd (i := 1087) (by decide +kernel) (by decide +kernel)
theorem lk_X7_183 : Cond.methodLink RX7 183 yX7_isTable ∈ am_tbl := am_wd (i := 1091) (by decide +kernel) (by decide +kernel)
theorem lk_L_70 : Cond.methodLink RL 70 yX7_laid ∈ am_tbl := am_wd (i := 1094) (by decide +kernel) (by decide +kernel)
theorem lk_L_74 : Cond.methodLink RL 74 yX7_answer ∈ am_tbl := am_wd (i := 1098) (by decide +kernel) (by decide +kernel)
theorem lk_X7_195 : Cond.methodLink RX7 195 yX7_believed ∈ am_tbl := am_wd (i := 1102) (by decide +kernel) (by decide +kernel)
theorem lk_X7_192 : Cond.methodLink RX7 192 yX7_weight ∈ am_tbl := am_wd (i := 1106) (by decide +kernel) (by decide +kernel)
theorem lk_X7_186 : Cond.methodLink RX7 186 yX7_knows ∈ am_tbl := am_wd (i := 1110) (by decide +kernel) (by decide +kernel)
theorem lk_X7_189 : Cond.methodLink RX7 189 yX7_loudOf ∈ am_tbl := am_wd (i := 1114) (by decide +kernel) (by decide +kernel)
theorem lk_X7_202 : Cond.methodLink RX7 202 yX7_isRight ∈ am_tbl := am_wd (i := 1118) (by decide +kernel) (by decide +kernel)
theorem lk_X7_198 : Cond.methodLink RX7 198 yX7_canAnswer ∈ am_tbl := am_wd (i := 1122) (by decide +kernel) (by decide +kernel)
theorem lk_X7_205 : Cond.methodLink RX7 205 yX7_knowing ∈ am_tbl := am_wd (i := 1126) (by decide +kernel) (by decide +kernel)
theorem lk_L_78 : Cond.methodLink RL 78 yX7_score ∈ am_tbl := am_wd (i := 1130) (by decide +kernel) (by decide +kernel)
theorem lk_X7_217 : Cond.methodLink RX7 217 yX7_scoreNow ∈ am_tbl := am_wd (i := 1134) (by decide +kernel) (by decide +kernel)
theorem lk_X7_211 : Cond.methodLink RX7 211 yX7_all ∈ am_tbl := am_wd (i := 1138) (by decide +kernel) (by decide +kernel)
theorem lk_X7_214 : Cond.methodLink RX7 214 yX7_scoreOf ∈ am_tbl := am_wd (i := 1142) (by decide +kernel) (by decide +kernel)
theorem lk_X7_208 : Cond.methodLink RX7 208 yX7_pointsOf ∈ am_tbl := am_wd (i := 1146) (by decide +kernel) (by decide +kernel)
theorem lk_X7_220 : Cond.methodLink RX7 220 yX7_rightOf ∈ am_tbl := am_wd (i := 1150) (by decide +kernel) (by decide +kernel)
theorem lk_X7_223 : Cond.methodLink RX7 223 yX7_missed ∈ am_tbl := am_wd (i := 1154) (by decide +kernel) (by decide +kernel)
theorem lk_L_82 : Cond.methodLink RL 82 yX7_evening ∈ am_tbl := am_wd (i := 1158) (by decide +kernel) (by decide +kernel)
theorem lk_X7_226 : Cond.methodLink RX7 226 yX7_winner ∈ am_tbl := am_wd (i := 1162) (by decide +kernel) (by decide +kernel)
theorem lk_X7_229 : Cond.methodLink RX7 229 yX7_apart ∈ am_tbl := am_wd (i := 1166) (by decide +kernel) (by decide +kernel)
theorem lk_L_86 : Cond.methodLink RL 86 yX7_best ∈ am_tbl := am_wd (i := 1170) (by decide +kernel) (by decide +kernel)
theorem lk_L_90 : Cond.methodLink RL 90 yX7_join ∈ am_tbl := am_wd (i := 1174) (by decide +kernel) (by decide +kernel)
theorem lk_X7_232 : Cond.methodLink RX7 232 yX7_scoreWith ∈ am_tbl := am_wd (i := 1178) (by decide +kernel) (by decide +kernel)
theorem lk_L_94 : Cond.methodLink RL 94 yX7_leave ∈ am_tbl := am_wd (i := 1182) (by decide +kernel) (by decide +kernel)
theorem lk_L_98 : Cond.methodLink RL 98 yX7_cover ∈ am_tbl := am_wd (i := 1186) (by decide +kernel) (by decide +kernel)
theorem lk_X7_235 : Cond.methodLink RX7 235 yX7_coveredBy ∈ am_tbl := am_wd (i := 1190) (by decide +kernel) (by decide +kernel)
theorem lk_X7_238 : Cond.methodLink RX7 238 yX7_ones ∈ am_tbl := am_wd (i := 1194) (by decide +kernel) (by decide +kernel)
theorem lk_L_102 : Cond.methodLink RL 102 yX7_hire ∈ am_tbl := am_wd (i := 1197) (by decide +kernel) (by decide +kernel)
theorem lk_X7_241 : Cond.methodLink RX7 241 yX7_priceOf ∈ am_tbl := am_wd (i := 1201) (by decide +kernel) (by decide +kernel)
theorem lk_L_106 : Cond.methodLink RL 106 yX7_price ∈ am_tbl := am_wd (i := 1205) (by decide +kernel) (by decide +kernel)
theorem lk_L_110 : Cond.methodLink RL 110 yX7_close ∈ am_tbl := am_wd (i := 1209) (by decide +kernel) (by decide +kernel)
theorem lk_L_114 : Cond.methodLink RL 114 yX7_good ∈ am_tbl := am_wd (i := 1213) (by decide +kernel) (by decide +kernel)
theorem lk_L_119 : Cond.methodLink RL 119 yX7_alike ∈ am_tbl := am_wd (i := 1218) (by decide +kernel) (by decide +kernel)
theorem lk_X7_247 : Cond.methodLink RX7 247 yX7_lowest ∈ am_tbl := am_wd (i := 1223) (by decide +kernel) (by decide +kernel)
theorem lk_L_123 : Cond.methodLink RL 123 yX7_change ∈ am_tbl := am_wd (i := 1226) (by decide +kernel) (by decide +kernel)
theorem lk_X7_251 : Cond.methodLink RX7 251 yX7_apartChanged ∈ am_tbl := am_wd (i := 1230) (by decide +kernel) (by decide +kernel)
theorem lk_L_127 : Cond.methodLink RL 127 yX7_judge ∈ am_tbl := am_wd (i := 1234) (by decide +kernel) (by decide +kernel)
theorem lk_X7_254 : Cond.methodLink RX7 254 yX7_sheetWrong ∈ am_tbl := am_wd (i := 1238) (by decide +kernel) (by decide +kernel)
theorem lk_X7_257 : Cond.methodLink RX7 257 yX7_unlike ∈ am_tbl := am_wd (i := 1242) (by decide +kernel) (by decide +kernel)
theorem lk_L_131 : Cond.methodLink RL 131 yX7_whose ∈ am_tbl := am_wd (i := 1246) (by decide +kernel) (by decide +kernel)
theorem lk_L_135 : Cond.methodLink RL 135 yX7_depth ∈ am_tbl := am_wd (i := 1250) (by decide +kernel) (by decide +kernel)
theorem lk_L_139 : Cond.methodLink RL 139 yX7_laws ∈ am_tbl := am_wd (i := 1254) (by decide +kernel) (by decide +kernel)
theorem lk_L_143 : Cond.methodLink RL 143 yX7_film ∈ am_tbl := am_wd (i := 1258) (by decide +kernel) (by decide +kernel)
theorem lk_L_147 : Cond.methodLink RL 147 yX7_drawn ∈ am_tbl := am_wd (i := 1262) (by decide +kernel) (by decide +kernel)
theorem lk_X7_267 : Cond.methodLink RX7 267 yX7_winnerBy ∈ am_tbl := am_wd (i := 1267) (by decide +kernel) (by decide +kernel)
theorem lk_L_152 : Cond.methodLink RL 152 yX7_odds ∈ am_tbl := am_wd (i := 1274) (by decide +kernel) (by decide +kernel)
theorem lk_L_156 : Cond.methodLink RL 156 yX7_image ∈ am_tbl := am_wd (i := 1278) (by decide +kernel) (by decide +kernel)
theorem lk_L_160 : Cond.methodLink RL 160 yX7_back ∈ am_tbl := am_wd (i := 1282) (by decide +kernel) (by decide +kernel)
theorem lk_L_164 : Cond.methodLink RL 164 yX7_sheet ∈ am_tbl := am_wd (i := 1286) (by decide +kernel) (by decide +kernel)
theorem lk_L_168 : Cond.methodLink RL 168 yX7_cell ∈ am_tbl := am_wd (i := 1290) (by decide +kernel) (by decide +kernel)
theorem lk_L_172 : Cond.methodLink RL 172 yX7_copy ∈ am_tbl := am_wd (i := 1294) (by decide +kernel) (by decide +kernel)
theorem lk_L_177 : Cond.methodLink RL 177 yX7_depthsBy ∈ am_tbl := am_wd (i := 1298) (by decide +kernel) (by decide +kernel)
theorem lk_X7_283 : Cond.methodLink RX7 283 yX7_learn ∈ am_tbl := am_wd (i := 1302) (by decide +kernel) (by decide +kernel)
theorem lk_L_181 : Cond.methodLink RL 181 yX7_taken ∈ am_tbl := am_wd (i := 1303) (by decide +kernel) (by decide +kernel)
theorem lk_X7_286 : Cond.methodLink RX7 286 yX7_isUnder ∈ am_tbl := am_wd (i := 1307) (by decide +kernel) (by decide +kernel)
theorem am_oc : Cond.code Lib.objectInit ⟨#[0xb1]⟩ 1 none ∈ am_tbl := am_wd (i := 93) (by decide +kernel) (by decide +kernel)
theorem am_oi : Cond.instanceMethod Lib.objectInit ∈ am_tbl := am_wd (i := 92) (by decide +kernel) (by decide +kernel)
theorem am_acn : Cond.native arraycopyName ∈ am_tbl := am_wd (i := 360) (by decide +kernel) (by decide +kernel)
theorem am_acs : Cond.static arraycopyName ∈ am_tbl := am_wd (i := 359) (by decide +kernel) (by decide +kernel)
theorem am_aci : Cond.initialized "java/lang/System" ∈ am_tbl := am_wd (i := 82) (by decide +kernel) (by decide +kernel)
theorem lk_J7_150 : Cond.methodLink RJ7 150 arraycopyName ∈ am_tbl := am_wd (i := 358) (by decide +kernel) (by decide +kernel)
theorem lk_X6_253 : Cond.methodLink RX6 253 arraycopyName ∈ am_tbl := am_wd (i := 818) (by decide +kernel) (by decide +kernel)
