/-! the tables' words by their places: facts of each method, each call, each field -/
def am_tbl : List Cond := lw_tbl.filter goodWord
theorem am_wd {i : Nat} {w : Cond} (h : lw_tbl[i]? = some w) (hg : goodWord w = true) : w ∈ am_tbl := List.mem_filter.mpr ⟨List.mem_of_getElem? h, hg⟩
theorem am_good : ∀ w ∈ am_tbl, goodWord w = true := fun w h => (List.mem_filter.mp h).2
theorem am_sub : ∀ w ∈ am_tbl, w ∈ lw_tbl := fun w h => (List.mem_filter.mp h).1
def am_nest : List Cond := [Cond.methodLinkNest RX6 33 yX4_init RX6, Cond.fieldLinkNest RX6 94 RX4 "size" "I" RX6, Cond.fieldLinkNest RX6 105 RX4 "place" "I" RX6, Cond.methodLinkNest RX6 40 yX3_init RX6, Cond.fieldLinkNest RX6 282 RX3 "numbers" "[I" RX6, Cond.fieldLinkNest RX6 275 RX3 "sort" "I" RX6, Cond.fieldLinkNest RX6 324 RX3 "size" "I" RX6, Cond.methodLinkNest RX6 47 yX2_init RX6, Cond.fieldLinkNest RX6 242 RX2 "deep" "[I" RX6, Cond.fieldLinkNest RX6 249 RX2 "seats" "[I" RX6, Cond.fieldLinkNest RX6 252 RX2 "jokers" "[I" RX6, Cond.fieldLinkNest RX6 238 RX2 "isThere" "Z" RX6, Cond.fieldLinkNest RX6 259 RX2 "people" "I" RX6, Cond.fieldLinkNest RX6 261 RX2 "questions" "I" RX6, Cond.fieldLinkNest RX6 264 RX2 "law" "I" RX6, Cond.methodLinkNest RX6 54 yX0_init RX6, Cond.methodLinkNest RX5 29 yX6_bounded RX6, Cond.fieldLinkNest RX6 146 RX1 "kind" "I" RX6, Cond.fieldLinkNest RX6 152 RX1 "more" "I" RX6, Cond.fieldLinkNest RX6 149 RX1 "told" "I" RX6, Cond.fieldLinkNest RX6 143 RX1 "seat" "I" RX6, Cond.methodLinkNest RX1 31 yX6_isTopic RX6, Cond.methodLinkNest RX1 35 yX6_bounded RX6, Cond.methodLinkNest RX0 32 yX6_bounded RX6, Cond.methodLinkNest RX0 40 yX6_name RX6, Cond.methodLinkNest RX0 44 yX6_nameMore RX6, Cond.methodLinkNest RX3 17 yX6_bounded RX6]
theorem am_nestok : ∀ w ∈ am_nest, w ∈ lw_tbl := by
  intro w h
  simp only [am_nest, List.mem_cons, List.not_mem_nil, or_false] at h
  rcases h with rfl | rfl | rfl | rfl | rfl | rfl | rfl | rfl | rfl | rfl | rfl | rfl | rfl | rfl | rfl | rfl | rfl | rfl | rfl | rfl | rfl | rfl | rfl | rfl | rfl | rfl | rfl
  · exact List.mem_of_getElem? (i := 100) (by decide +kernel)
  · exact List.mem_of_getElem? (i := 107) (by decide +kernel)
  · exact List.mem_of_getElem? (i := 109) (by decide +kernel)
  · exact List.mem_of_getElem? (i := 132) (by decide +kernel)
  · exact List.mem_of_getElem? (i := 137) (by decide +kernel)
  · exact List.mem_of_getElem? (i := 139) (by decide +kernel)
  · exact List.mem_of_getElem? (i := 141) (by decide +kernel)
  · exact List.mem_of_getElem? (i := 151) (by decide +kernel)
  · exact List.mem_of_getElem? (i := 156) (by decide +kernel)
  · exact List.mem_of_getElem? (i := 158) (by decide +kernel)
  · exact List.mem_of_getElem? (i := 160) (by decide +kernel)
  · exact List.mem_of_getElem? (i := 161) (by decide +kernel)
  · exact List.mem_of_getElem? (i := 162) (by decide +kernel)
  · exact List.mem_of_getElem? (i := 163) (by decide +kernel)
  · exact List.mem_of_getElem? (i := 164) (by decide +kernel)
  · exact List.mem_of_getElem? (i := 182) (by decide +kernel)
  · exact List.mem_of_getElem? (i := 477) (by decide +kernel)
  · exact List.mem_of_getElem? (i := 500) (by decide +kernel)
  · exact List.mem_of_getElem? (i := 502) (by decide +kernel)
  · exact List.mem_of_getElem? (i := 504) (by decide +kernel)
  · exact List.mem_of_getElem? (i := 507) (by decide +kernel)
  · exact List.mem_of_getElem? (i := 534) (by decide +kernel)
  · exact List.mem_of_getElem? (i := 539) (by decide +kernel)
  · exact List.mem_of_getElem? (i := 584) (by decide +kernel)
  · exact List.mem_of_getElem? (i := 585) (by decide +kernel)
  · exact List.mem_of_getElem? (i := 586) (by decide +kernel)
  · exact List.mem_of_getElem? (i := 782) (by decide +kernel)
theorem am_u0 : ∀ w ∈ u_ws RX0 TX0 5, w ∈ am_tbl := by
  intro w h
  obtain ⟨k, hk, rfl⟩ := List.mem_map.mp h
  have hk := List.mem_range.mp hk
  match k, hk with
  | 0, _ => exact am_wd (i := 191) (by decide +kernel) (by decide +kernel)
  | 1, _ => exact am_wd (i := 193) (by decide +kernel) (by decide +kernel)
  | 2, _ => exact am_wd (i := 195) (by decide +kernel) (by decide +kernel)
  | 3, _ => exact am_wd (i := 197) (by decide +kernel) (by decide +kernel)
  | 4, _ => exact am_wd (i := 199) (by decide +kernel) (by decide +kernel)
  | k + 5, hk => exact absurd hk (by omega)
theorem am_u1 : ∀ w ∈ u_ws RX1 TX1 5, w ∈ am_tbl := by
  intro w h
  obtain ⟨k, hk, rfl⟩ := List.mem_map.mp h
  have hk := List.mem_range.mp hk
  match k, hk with
  | 0, _ => exact am_wd (i := 508) (by decide +kernel) (by decide +kernel)
  | 1, _ => exact am_wd (i := 510) (by decide +kernel) (by decide +kernel)
  | 2, _ => exact am_wd (i := 512) (by decide +kernel) (by decide +kernel)
  | 3, _ => exact am_wd (i := 514) (by decide +kernel) (by decide +kernel)
  | 4, _ => exact am_wd (i := 516) (by decide +kernel) (by decide +kernel)
  | k + 5, hk => exact absurd hk (by omega)
theorem am_u2 : ∀ w ∈ u_ws RX2 TX2 7, w ∈ am_tbl := by
  intro w h
  obtain ⟨k, hk, rfl⟩ := List.mem_map.mp h
  have hk := List.mem_range.mp hk
  match k, hk with
  | 0, _ => exact am_wd (i := 165) (by decide +kernel) (by decide +kernel)
  | 1, _ => exact am_wd (i := 167) (by decide +kernel) (by decide +kernel)
  | 2, _ => exact am_wd (i := 169) (by decide +kernel) (by decide +kernel)
  | 3, _ => exact am_wd (i := 171) (by decide +kernel) (by decide +kernel)
  | 4, _ => exact am_wd (i := 173) (by decide +kernel) (by decide +kernel)
  | 5, _ => exact am_wd (i := 175) (by decide +kernel) (by decide +kernel)
  | 6, _ => exact am_wd (i := 177) (by decide +kernel) (by decide +kernel)
  | k + 7, hk => exact absurd hk (by omega)
theorem am_u3 : ∀ w ∈ u_ws RX3 TX3 3, w ∈ am_tbl := by
  intro w h
  obtain ⟨k, hk, rfl⟩ := List.mem_map.mp h
  have hk := List.mem_range.mp hk
  match k, hk with
  | 0, _ => exact am_wd (i := 142) (by decide +kernel) (by decide +kernel)
  | 1, _ => exact am_wd (i := 144) (by decide +kernel) (by decide +kernel)
  | 2, _ => exact am_wd (i := 146) (by decide +kernel) (by decide +kernel)
  | k + 3, hk => exact absurd hk (by omega)
theorem am_u4 : ∀ w ∈ u_ws RX4 TX4 7, w ∈ am_tbl := by
  intro w h
  obtain ⟨k, hk, rfl⟩ := List.mem_map.mp h
  have hk := List.mem_range.mp hk
  match k, hk with
  | 0, _ => exact am_wd (i := 113) (by decide +kernel) (by decide +kernel)
  | 1, _ => exact am_wd (i := 115) (by decide +kernel) (by decide +kernel)
  | 2, _ => exact am_wd (i := 117) (by decide +kernel) (by decide +kernel)
  | 3, _ => exact am_wd (i := 119) (by decide +kernel) (by decide +kernel)
  | 4, _ => exact am_wd (i := 121) (by decide +kernel) (by decide +kernel)
  | 5, _ => exact am_wd (i := 123) (by decide +kernel) (by decide +kernel)
  | 6, _ => exact am_wd (i := 125) (by decide +kernel) (by decide +kernel)
  | k + 7, hk => exact absurd hk (by omega)
theorem am_u5 : ∀ w ∈ u_ws RX5 TX5 4, w ∈ am_tbl := by
  intro w h
  obtain ⟨k, hk, rfl⟩ := List.mem_map.mp h
  have hk := List.mem_range.mp hk
  match k, hk with
  | 0, _ => exact am_wd (i := 369) (by decide +kernel) (by decide +kernel)
  | 1, _ => exact am_wd (i := 371) (by decide +kernel) (by decide +kernel)
  | 2, _ => exact am_wd (i := 373) (by decide +kernel) (by decide +kernel)
  | 3, _ => exact am_wd (i := 375) (by decide +kernel) (by decide +kernel)
  | k + 4, hk => exact absurd hk (by omega)
theorem am_u6 : ∀ w ∈ u_ws RX6 TX6 16, w ∈ am_tbl := by
  intro w h
  obtain ⟨k, hk, rfl⟩ := List.mem_map.mp h
  have hk := List.mem_range.mp hk
  match k, hk with
  | 0, _ => exact am_wd (i := 399) (by decide +kernel) (by decide +kernel)
  | 1, _ => exact am_wd (i := 401) (by decide +kernel) (by decide +kernel)
  | 2, _ => exact am_wd (i := 403) (by decide +kernel) (by decide +kernel)
  | 3, _ => exact am_wd (i := 405) (by decide +kernel) (by decide +kernel)
  | 4, _ => exact am_wd (i := 407) (by decide +kernel) (by decide +kernel)
  | 5, _ => exact am_wd (i := 409) (by decide +kernel) (by decide +kernel)
  | 6, _ => exact am_wd (i := 411) (by decide +kernel) (by decide +kernel)
  | 7, _ => exact am_wd (i := 413) (by decide +kernel) (by decide +kernel)
  | 8, _ => exact am_wd (i := 415) (by decide +kernel) (by decide +kernel)
  | 9, _ => exact am_wd (i := 417) (by decide +kernel) (by decide +kernel)
  | 10, _ => exact am_wd (i := 419) (by decide +kernel) (by decide +kernel)
  | 11, _ => exact am_wd (i := 421) (by decide +kernel) (by decide +kernel)
  | 12, _ => exact am_wd (i := 423) (by decide +kernel) (by decide +kernel)
  | 13, _ => exact am_wd (i := 425) (by decide +kernel) (by decide +kernel)
  | 14, _ => exact am_wd (i := 427) (by decide +kernel) (by decide +kernel)
  | 15, _ => exact am_wd (i := 429) (by decide +kernel) (by decide +kernel)
  | k + 16, hk => exact absurd hk (by omega)
theorem am_u7 : ∀ w ∈ u_ws RX7 TX7 39, w ∈ am_tbl := by
  intro w h
  obtain ⟨k, hk, rfl⟩ := List.mem_map.mp h
  have hk := List.mem_range.mp hk
  match k, hk with
  | 0, _ => exact am_wd (i := 942) (by decide +kernel) (by decide +kernel)
  | 1, _ => exact am_wd (i := 944) (by decide +kernel) (by decide +kernel)
  | 2, _ => exact am_wd (i := 946) (by decide +kernel) (by decide +kernel)
  | 3, _ => exact am_wd (i := 948) (by decide +kernel) (by decide +kernel)
  | 4, _ => exact am_wd (i := 950) (by decide +kernel) (by decide +kernel)
  | 5, _ => exact am_wd (i := 952) (by decide +kernel) (by decide +kernel)
  | 6, _ => exact am_wd (i := 954) (by decide +kernel) (by decide +kernel)
  | 7, _ => exact am_wd (i := 956) (by decide +kernel) (by decide +kernel)
  | 8, _ => exact am_wd (i := 958) (by decide +kernel) (by decide +kernel)
  | 9, _ => exact am_wd (i := 960) (by decide +kernel) (by decide +kernel)
  | 10, _ => exact am_wd (i := 962) (by decide +kernel) (by decide +kernel)
  | 11, _ => exact am_wd (i := 964) (by decide +kernel) (by decide +kernel)
  | 12, _ => exact am_wd (i := 966) (by decide +kernel) (by decide +kernel)
  | 13, _ => exact am_wd (i := 968) (by decide +kernel) (by decide +kernel)
  | 14, _ => exact am_wd (i := 970) (by decide +kernel) (by decide +kernel)
  | 15, _ => exact am_wd (i := 972) (by decide +kernel) (by decide +kernel)
  | 16, _ => exact am_wd (i := 974) (by decide +kernel) (by decide +kernel)
  | 17, _ => exact am_wd (i := 976) (by decide +kernel) (by decide +kernel)
  | 18, _ => exact am_wd (i := 978) (by decide +kernel) (by decide +kernel)
  | 19, _ => exact am_wd (i := 980) (by decide +kernel) (by decide +kernel)
  | 20, _ => exact am_wd (i := 982) (by decide +kernel) (by decide +kernel)
  | 21, _ => exact am_wd (i := 984) (by decide +kernel) (by decide +kernel)
  | 22, _ => exact am_wd (i := 986) (by decide +kernel) (by decide +kernel)
  | 23, _ => exact am_wd (i := 988) (by decide +kernel) (by decide +kernel)
  | 24, _ => exact am_wd (i := 990) (by decide +kernel) (by decide +kernel)
  | 25, _ => exact am_wd (i := 992) (by decide +kernel) (by decide +kernel)
  | 26, _ => exact am_wd (i := 994) (by decide +kernel) (by decide +kernel)
  | 27, _ => exact am_wd (i := 996) (by decide +kernel) (by decide +kernel)
  | 28, _ => exact am_wd (i := 998) (by decide +kernel) (by decide +kernel)
  | 29, _ => exact am_wd (i := 1000) (by decide +kernel) (by decide +kernel)
  | 30, _ => exact am_wd (i := 1002) (by decide +kernel) (by decide +kernel)
  | 31, _ => exact am_wd (i := 1004) (by decide +kernel) (by decide +kernel)
  | 32, _ => exact am_wd (i := 1006) (by decide +kernel) (by decide +kernel)
  | 33, _ => exact am_wd (i := 1008) (by decide +kernel) (by decide +kernel)
  | 34, _ => exact am_wd (i := 1010) (by decide +kernel) (by decide +kernel)
  | 35, _ => exact am_wd (i := 1012) (by decide +kernel) (by decide +kernel)
  | 36, _ => exact am_wd (i := 1014) (by decide +kernel) (by decide +kernel)
  | 37, _ => exact am_wd (i := 1016) (by decide +kernel) (by decide +kernel)
  | 38, _ => exact am_wd (i := 1018) (by decide +kernel) (by decide +kernel)
  | k + 39, hk => exact absurd hk (by omega)
theorem am_ib0 : Cond.instantiable RX0 5 ∈ am_tbl := am_wd (i := 181) (by decide +kernel) (by decide +kernel)
theorem am_in0 : Cond.initialized RX0 ∈ am_tbl := am_wd (i := 74) (by decide +kernel) (by decide +kernel)
theorem am_ib1 : Cond.instantiable RX1 5 ∈ am_tbl := am_wd (i := 494) (by decide +kernel) (by decide +kernel)
theorem am_in1 : Cond.initialized RX1 ∈ am_tbl := am_wd (i := 84) (by decide +kernel) (by decide +kernel)
theorem am_ib2 : Cond.instantiable RX2 7 ∈ am_tbl := am_wd (i := 150) (by decide +kernel) (by decide +kernel)
theorem am_in2 : Cond.initialized RX2 ∈ am_tbl := am_wd (i := 73) (by decide +kernel) (by decide +kernel)
theorem am_ib3 : Cond.instantiable RX3 3 ∈ am_tbl := am_wd (i := 131) (by decide +kernel) (by decide +kernel)
theorem am_in3 : Cond.initialized RX3 ∈ am_tbl := am_wd (i := 72) (by decide +kernel) (by decide +kernel)
theorem am_ib4 : Cond.instantiable RX4 7 ∈ am_tbl := am_wd (i := 99) (by decide +kernel) (by decide +kernel)
theorem am_in4 : Cond.initialized RX4 ∈ am_tbl := am_wd (i := 71) (by decide +kernel) (by decide +kernel)
theorem am_ib5 : Cond.instantiable RX5 4 ∈ am_tbl := am_wd (i := 344) (by decide +kernel) (by decide +kernel)
theorem am_in5 : Cond.initialized RX5 ∈ am_tbl := am_wd (i := 79) (by decide +kernel) (by decide +kernel)
theorem am_ib6 : Cond.instantiable RX6 16 ∈ am_tbl := am_wd (i := 87) (by decide +kernel) (by decide +kernel)
theorem am_in6 : Cond.initialized RX6 ∈ am_tbl := am_wd (i := 70) (by decide +kernel) (by decide +kernel)
theorem am_ib7 : Cond.instantiable RX7 39 ∈ am_tbl := am_wd (i := 851) (by decide +kernel) (by decide +kernel)
theorem am_in7 : Cond.initialized RX7 ∈ am_tbl := am_wd (i := 83) (by decide +kernel) (by decide +kernel)
theorem cl_L_7 : Cond.classLink RL 7 RX6 ∈ am_tbl := am_wd (i := 86) (by decide +kernel) (by decide +kernel)
theorem cl_X6_9 : Cond.classLink RX6 9 RX1 ∈ am_tbl := am_wd (i := 94) (by decide +kernel) (by decide +kernel)
theorem cl_X6_25 : Cond.classLink RX6 25 RX5 ∈ am_tbl := am_wd (i := 96) (by decide +kernel) (by decide +kernel)
theorem cl_X6_31 : Cond.classLink RX6 31 RX4 ∈ am_tbl := am_wd (i := 98) (by decide +kernel) (by decide +kernel)
theorem cl_X6_38 : Cond.classLink RX6 38 RX3 ∈ am_tbl := am_wd (i := 129) (by decide +kernel) (by decide +kernel)
theorem cl_X6_45 : Cond.classLink RX6 45 RX2 ∈ am_tbl := am_wd (i := 149) (by decide +kernel) (by decide +kernel)
theorem cl_X6_52 : Cond.classLink RX6 52 RX0 ∈ am_tbl := am_wd (i := 180) (by decide +kernel) (by decide +kernel)
theorem cl_X4_50 : Cond.classLink RX4 50 RX5 ∈ am_tbl := am_wd (i := 343) (by decide +kernel) (by decide +kernel)
theorem ct_J6_265 : Cond.constant RJ6 265 (1431655765) ∈ am_tbl := am_wd (i := 684) (by decide +kernel) (by decide +kernel)
theorem ct_J6_266 : Cond.constant RJ6 266 (858993459) ∈ am_tbl := am_wd (i := 685) (by decide +kernel) (by decide +kernel)
theorem ct_J6_267 : Cond.constant RJ6 267 (252645135) ∈ am_tbl := am_wd (i := 686) (by decide +kernel) (by decide +kernel)
theorem ct_X6_205 : Cond.constant RX6 205 (-100000) ∈ am_tbl := am_wd (i := 711) (by decide +kernel) (by decide +kernel)
theorem ct_X6_209 : Cond.constantLong RX6 209 (-4611686018427387904) ∈ am_tbl := am_wd (i := 719) (by decide +kernel) (by decide +kernel)
theorem ct_X6_234 : Cond.constant RX6 234 (100000) ∈ am_tbl := am_wd (i := 794) (by decide +kernel) (by decide +kernel)
theorem ct_X6_325 : Cond.constantLong RX6 325 (48271) ∈ am_tbl := am_wd (i := 803) (by decide +kernel) (by decide +kernel)
theorem ct_X6_327 : Cond.constantLong RX6 327 (2147483647) ∈ am_tbl := am_wd (i := 804) (by decide +kernel) (by decide +kernel)
theorem ct_X6_329 : Cond.constantLong RX6 329 (3) ∈ am_tbl := am_wd (i := 805) (by decide +kernel) (by decide +kernel)
theorem cl_L_10 : Cond.classLink RL 10 RX7 ∈ am_tbl := am_wd (i := 850) (by decide +kernel) (by decide +kernel)
theorem ct_X7_149 : Cond.constant RX7 149 (100000) ∈ am_tbl := am_wd (i := 875) (by decide +kernel) (by decide +kernel)
theorem ct_X7_244 : Cond.constant RX7 244 (-100000) ∈ am_tbl := am_wd (i := 1217) (by decide +kernel) (by decide +kernel)
theorem ct_X7_245 : Cond.constantLong RX7 245 (-4611686018427387904) ∈ am_tbl := am_wd (i := 1222) (by decide +kernel) (by decide +kernel)
theorem ct_X7_266 : Cond.constant RX7 266 (99999) ∈ am_tbl := am_wd (i := 1266) (by decide +kernel) (by decide +kernel)
theorem ct_X7_260 : Cond.constantLong RX7 260 (48271) ∈ am_tbl := am_wd (i := 1271) (by decide +kernel) (by decide +kernel)
theorem ct_X7_262 : Cond.constantLong RX7 262 (2147483647) ∈ am_tbl := am_wd (i := 1272) (by decide +kernel) (by decide +kernel)
theorem ct_X7_264 : Cond.constantLong RX7 264 (3) ∈ am_tbl := am_wd (i := 1273) (by decide +kernel) (by decide +kernel)
theorem am_mx1 : Cond.static Lib.Math.max.name ∈ am_tbl := am_wd (i := 482) (by decide +kernel) (by decide +kernel)
theorem am_mx2 : Cond.code Lib.Math.max.name Lib.Math.max.code 2 (some .int) ∈ am_tbl := am_wd (i := 483) (by decide +kernel) (by decide +kernel)
theorem am_mn1 : Cond.static Lib.Math.min.name ∈ am_tbl := am_wd (i := 356) (by decide +kernel) (by decide +kernel)
theorem am_mn2 : Cond.code Lib.Math.min.name Lib.Math.min.code 2 (some .int) ∈ am_tbl := am_wd (i := 357) (by decide +kernel) (by decide +kernel)
theorem am_mx0 : Cond.initialized "java/lang/Math" ∈ am_tbl := am_wd (i := 81) (by decide +kernel) (by decide +kernel)
theorem am_ai : Cond.arrayClass .int ∈ am_tbl := am_wd (i := 128) (by decide +kernel) (by decide +kernel)
def am_cl (c : Nat) : vw_C := vwCl.getD c (RX7, TX7, 39)
/-- the place index of a class own names field k of class c -/
def am_fl (own : String) (idx c k : Nat) : Prop := (Cond.fieldLink own idx ((am_cl c).2.1 k).1 ((am_cl c).2.1 k).2.1 ((am_cl c).2.1 k).2.2.1 ∈ am_tbl) ∨ ∃ host, Cond.fieldLinkNest own idx ((am_cl c).2.1 k).1 ((am_cl c).2.1 k).2.1 ((am_cl c).2.1 k).2.2.1 host ∈ am_nest
def am_ty (c : Nat) : Nat → FieldType := match c with
  | 0 => tyX0
  | 1 => tyX1
  | 2 => tyX2
  | 3 => tyX3
  | 4 => tyX4
  | 5 => tyX5
  | 6 => tyX6
  | _ => tyX7
def am_tR (t : FieldType) : Bool := match t with
  | .object _ => true
  | .array _ => true
  | _ => false
def am_isR (c k : Nat) : Bool := am_tR (am_ty c k)
/-- field k of class c, of N fields, is an int (or boolean), a reference -/
def am_fI (own : String) (idx c k N : Nat) : Prop := am_fl own idx c k ∧ c < 8 ∧ k < N ∧ (am_cl c).2.2 = N ∧ am_isR c k = false
def am_fR (own : String) (idx c k N : Nat) : Prop := am_fl own idx c k ∧ c < 8 ∧ k < N ∧ (am_cl c).2.2 = N ∧ am_isR c k = true
def am_fin (c k : Nat) : Bool := ((am_cl c).2.1 k).2.2.2
theorem fl_X4_9 : am_fR RX4 9 4 0 7 := ⟨Or.inl (am_wd (i := 104) (by decide +kernel) (by decide +kernel)), by decide, by decide, rfl, rfl⟩
theorem fl_X4_13 : am_fR RX4 13 4 1 7 := ⟨Or.inl (am_wd (i := 105) (by decide +kernel) (by decide +kernel)), by decide, by decide, rfl, rfl⟩
theorem fl_X4_16 : am_fI RX4 16 4 2 7 := ⟨Or.inl (am_wd (i := 106) (by decide +kernel) (by decide +kernel)), by decide, by decide, rfl, rfl⟩
theorem fl_X6_94 : am_fI RX6 94 4 2 7 := ⟨Or.inr ⟨RX6, List.mem_of_getElem? (i := 1) (by decide +kernel)⟩, by decide, by decide, rfl, rfl⟩
theorem fl_X4_34 : am_fI RX4 34 4 3 7 := ⟨Or.inl (am_wd (i := 108) (by decide +kernel) (by decide +kernel)), by decide, by decide, rfl, rfl⟩
theorem fl_X6_105 : am_fI RX6 105 4 4 7 := ⟨Or.inr ⟨RX6, List.mem_of_getElem? (i := 2) (by decide +kernel)⟩, by decide, by decide, rfl, rfl⟩
theorem fl_X4_92 : am_fI RX4 92 4 4 7 := ⟨Or.inl (am_wd (i := 110) (by decide +kernel) (by decide +kernel)), by decide, by decide, rfl, rfl⟩
theorem fl_X4_47 : am_fI RX4 47 4 5 7 := ⟨Or.inl (am_wd (i := 111) (by decide +kernel) (by decide +kernel)), by decide, by decide, rfl, rfl⟩
theorem fl_X4_37 : am_fI RX4 37 4 6 7 := ⟨Or.inl (am_wd (i := 112) (by decide +kernel) (by decide +kernel)), by decide, by decide, rfl, rfl⟩
theorem fl_X3_9 : am_fR RX3 9 3 0 3 := ⟨Or.inl (am_wd (i := 136) (by decide +kernel) (by decide +kernel)), by decide, by decide, rfl, rfl⟩
theorem fl_X6_282 : am_fR RX6 282 3 0 3 := ⟨Or.inr ⟨RX6, List.mem_of_getElem? (i := 4) (by decide +kernel)⟩, by decide, by decide, rfl, rfl⟩
theorem fl_X3_13 : am_fI RX3 13 3 1 3 := ⟨Or.inl (am_wd (i := 138) (by decide +kernel) (by decide +kernel)), by decide, by decide, rfl, rfl⟩
theorem fl_X6_275 : am_fI RX6 275 3 1 3 := ⟨Or.inr ⟨RX6, List.mem_of_getElem? (i := 5) (by decide +kernel)⟩, by decide, by decide, rfl, rfl⟩
theorem fl_X3_23 : am_fI RX3 23 3 2 3 := ⟨Or.inl (am_wd (i := 140) (by decide +kernel) (by decide +kernel)), by decide, by decide, rfl, rfl⟩
theorem fl_X6_324 : am_fI RX6 324 3 2 3 := ⟨Or.inr ⟨RX6, List.mem_of_getElem? (i := 6) (by decide +kernel)⟩, by decide, by decide, rfl, rfl⟩
theorem fl_X2_9 : am_fR RX2 9 2 0 7 := ⟨Or.inl (am_wd (i := 155) (by decide +kernel) (by decide +kernel)), by decide, by decide, rfl, rfl⟩
theorem fl_X6_242 : am_fR RX6 242 2 0 7 := ⟨Or.inr ⟨RX6, List.mem_of_getElem? (i := 8) (by decide +kernel)⟩, by decide, by decide, rfl, rfl⟩
theorem fl_X2_15 : am_fR RX2 15 2 1 7 := ⟨Or.inl (am_wd (i := 157) (by decide +kernel) (by decide +kernel)), by decide, by decide, rfl, rfl⟩
theorem fl_X6_249 : am_fR RX6 249 2 1 7 := ⟨Or.inr ⟨RX6, List.mem_of_getElem? (i := 9) (by decide +kernel)⟩, by decide, by decide, rfl, rfl⟩
theorem fl_X2_18 : am_fR RX2 18 2 2 7 := ⟨Or.inl (am_wd (i := 159) (by decide +kernel) (by decide +kernel)), by decide, by decide, rfl, rfl⟩
theorem fl_X6_252 : am_fR RX6 252 2 2 7 := ⟨Or.inr ⟨RX6, List.mem_of_getElem? (i := 10) (by decide +kernel)⟩, by decide, by decide, rfl, rfl⟩
theorem fl_X6_238 : am_fI RX6 238 2 3 7 := ⟨Or.inr ⟨RX6, List.mem_of_getElem? (i := 11) (by decide +kernel)⟩, by decide, by decide, rfl, rfl⟩
theorem fl_X6_259 : am_fI RX6 259 2 4 7 := ⟨Or.inr ⟨RX6, List.mem_of_getElem? (i := 12) (by decide +kernel)⟩, by decide, by decide, rfl, rfl⟩
theorem fl_X6_261 : am_fI RX6 261 2 5 7 := ⟨Or.inr ⟨RX6, List.mem_of_getElem? (i := 13) (by decide +kernel)⟩, by decide, by decide, rfl, rfl⟩
theorem fl_X6_264 : am_fI RX6 264 2 6 7 := ⟨Or.inr ⟨RX6, List.mem_of_getElem? (i := 14) (by decide +kernel)⟩, by decide, by decide, rfl, rfl⟩
theorem fl_X0_9 : am_fR RX0 9 0 0 5 := ⟨Or.inl (am_wd (i := 186) (by decide +kernel) (by decide +kernel)), by decide, by decide, rfl, rfl⟩
theorem fl_X0_15 : am_fR RX0 15 0 1 5 := ⟨Or.inl (am_wd (i := 187) (by decide +kernel) (by decide +kernel)), by decide, by decide, rfl, rfl⟩
theorem fl_X0_18 : am_fR RX0 18 0 2 5 := ⟨Or.inl (am_wd (i := 188) (by decide +kernel) (by decide +kernel)), by decide, by decide, rfl, rfl⟩
theorem fl_X0_23 : am_fR RX0 23 0 3 5 := ⟨Or.inl (am_wd (i := 189) (by decide +kernel) (by decide +kernel)), by decide, by decide, rfl, rfl⟩
theorem fl_X0_36 : am_fI RX0 36 0 4 5 := ⟨Or.inl (am_wd (i := 190) (by decide +kernel) (by decide +kernel)), by decide, by decide, rfl, rfl⟩
theorem fl_X5_15 : am_fR RX5 15 5 0 4 := ⟨Or.inl (am_wd (i := 365) (by decide +kernel) (by decide +kernel)), by decide, by decide, rfl, rfl⟩
theorem fl_X5_18 : am_fI RX5 18 5 1 4 := ⟨Or.inl (am_wd (i := 366) (by decide +kernel) (by decide +kernel)), by decide, by decide, rfl, rfl⟩
theorem fl_X5_22 : am_fI RX5 22 5 2 4 := ⟨Or.inl (am_wd (i := 367) (by decide +kernel) (by decide +kernel)), by decide, by decide, rfl, rfl⟩
theorem fl_X5_11 : am_fR RX5 11 5 3 4 := ⟨Or.inl (am_wd (i := 368) (by decide +kernel) (by decide +kernel)), by decide, by decide, rfl, rfl⟩
theorem fl_X6_11 : am_fR RX6 11 6 0 16 := ⟨Or.inl (am_wd (i := 383) (by decide +kernel) (by decide +kernel)), by decide, by decide, rfl, rfl⟩
theorem fl_X6_15 : am_fR RX6 15 6 1 16 := ⟨Or.inl (am_wd (i := 384) (by decide +kernel) (by decide +kernel)), by decide, by decide, rfl, rfl⟩
theorem fl_X6_19 : am_fR RX6 19 6 2 16 := ⟨Or.inl (am_wd (i := 385) (by decide +kernel) (by decide +kernel)), by decide, by decide, rfl, rfl⟩
theorem fl_X6_22 : am_fR RX6 22 6 3 16 := ⟨Or.inl (am_wd (i := 386) (by decide +kernel) (by decide +kernel)), by decide, by decide, rfl, rfl⟩
theorem fl_X6_27 : am_fR RX6 27 6 4 16 := ⟨Or.inl (am_wd (i := 387) (by decide +kernel) (by decide +kernel)), by decide, by decide, rfl, rfl⟩
theorem fl_X6_34 : am_fR RX6 34 6 5 16 := ⟨Or.inl (am_wd (i := 388) (by decide +kernel) (by decide +kernel)), by decide, by decide, rfl, rfl⟩
theorem fl_X6_41 : am_fR RX6 41 6 6 16 := ⟨Or.inl (am_wd (i := 389) (by decide +kernel) (by decide +kernel)), by decide, by decide, rfl, rfl⟩
theorem fl_X6_48 : am_fR RX6 48 6 7 16 := ⟨Or.inl (am_wd (i := 390) (by decide +kernel) (by decide +kernel)), by decide, by decide, rfl, rfl⟩
theorem fl_X6_55 : am_fR RX6 55 6 8 16 := ⟨Or.inl (am_wd (i := 391) (by decide +kernel) (by decide +kernel)), by decide, by decide, rfl, rfl⟩
theorem fl_X6_59 : am_fR RX6 59 6 9 16 := ⟨Or.inl (am_wd (i := 392) (by decide +kernel) (by decide +kernel)), by decide, by decide, rfl, rfl⟩
theorem fl_X6_62 : am_fR RX6 62 6 10 16 := ⟨Or.inl (am_wd (i := 393) (by decide +kernel) (by decide +kernel)), by decide, by decide, rfl, rfl⟩
theorem fl_X6_65 : am_fR RX6 65 6 11 16 := ⟨Or.inl (am_wd (i := 394) (by decide +kernel) (by decide +kernel)), by decide, by decide, rfl, rfl⟩
theorem fl_X6_85 : am_fI RX6 85 6 12 16 := ⟨Or.inl (am_wd (i := 395) (by decide +kernel) (by decide +kernel)), by decide, by decide, rfl, rfl⟩
theorem fl_X6_88 : am_fI RX6 88 6 13 16 := ⟨Or.inl (am_wd (i := 396) (by decide +kernel) (by decide +kernel)), by decide, by decide, rfl, rfl⟩
theorem fl_X6_81 : am_fI RX6 81 6 14 16 := ⟨Or.inl (am_wd (i := 397) (by decide +kernel) (by decide +kernel)), by decide, by decide, rfl, rfl⟩
theorem fl_X6_91 : am_fI RX6 91 6 15 16 := ⟨Or.inl (am_wd (i := 398) (by decide +kernel) (by decide +kernel)), by decide, by decide, rfl, rfl⟩
theorem fl_X1_15 : am_fI RX1 15 1 0 5 := ⟨Or.inl (am_wd (i := 499) (by decide +kernel) (by decide +kernel)), by decide, by decide, rfl, rfl⟩
theorem fl_X6_146 : am_fI RX6 146 1 0 5 := ⟨Or.inr ⟨RX6, List.mem_of_getElem? (i := 17) (by decide +kernel)⟩, by decide, by decide, rfl, rfl⟩
theorem fl_X1_19 : am_fI RX1 19 1 1 5 := ⟨Or.inl (am_wd (i := 501) (by decide +kernel) (by decide +kernel)), by decide, by decide, rfl, rfl⟩
theorem fl_X6_152 : am_fI RX6 152 1 1 5 := ⟨Or.inr ⟨RX6, List.mem_of_getElem? (i := 18) (by decide +kernel)⟩, by decide, by decide, rfl, rfl⟩
theorem fl_X1_22 : am_fI RX1 22 1 2 5 := ⟨Or.inl (am_wd (i := 503) (by decide +kernel) (by decide +kernel)), by decide, by decide, rfl, rfl⟩
theorem fl_X6_149 : am_fI RX6 149 1 2 5 := ⟨Or.inr ⟨RX6, List.mem_of_getElem? (i := 19) (by decide +kernel)⟩, by decide, by decide, rfl, rfl⟩
theorem fl_X1_9 : am_fR RX1 9 1 3 5 := ⟨Or.inl (am_wd (i := 505) (by decide +kernel) (by decide +kernel)), by decide, by decide, rfl, rfl⟩
theorem fl_X1_25 : am_fI RX1 25 1 4 5 := ⟨Or.inl (am_wd (i := 506) (by decide +kernel) (by decide +kernel)), by decide, by decide, rfl, rfl⟩
theorem fl_X6_143 : am_fI RX6 143 1 4 5 := ⟨Or.inr ⟨RX6, List.mem_of_getElem? (i := 20) (by decide +kernel)⟩, by decide, by decide, rfl, rfl⟩
theorem fl_X7_87 : am_fI RX7 87 7 0 39 := ⟨Or.inl (am_wd (i := 903) (by decide +kernel) (by decide +kernel)), by decide, by decide, rfl, rfl⟩
theorem fl_X7_7 : am_fR RX7 7 7 1 39 := ⟨Or.inl (am_wd (i := 904) (by decide +kernel) (by decide +kernel)), by decide, by decide, rfl, rfl⟩
theorem fl_X7_13 : am_fR RX7 13 7 2 39 := ⟨Or.inl (am_wd (i := 905) (by decide +kernel) (by decide +kernel)), by decide, by decide, rfl, rfl⟩
theorem fl_X7_16 : am_fR RX7 16 7 3 39 := ⟨Or.inl (am_wd (i := 906) (by decide +kernel) (by decide +kernel)), by decide, by decide, rfl, rfl⟩
theorem fl_X7_19 : am_fR RX7 19 7 4 39 := ⟨Or.inl (am_wd (i := 907) (by decide +kernel) (by decide +kernel)), by decide, by decide, rfl, rfl⟩
theorem fl_X7_22 : am_fR RX7 22 7 5 39 := ⟨Or.inl (am_wd (i := 908) (by decide +kernel) (by decide +kernel)), by decide, by decide, rfl, rfl⟩
theorem fl_X7_94 : am_fI RX7 94 7 6 39 := ⟨Or.inl (am_wd (i := 909) (by decide +kernel) (by decide +kernel)), by decide, by decide, rfl, rfl⟩
theorem fl_X7_25 : am_fR RX7 25 7 7 39 := ⟨Or.inl (am_wd (i := 910) (by decide +kernel) (by decide +kernel)), by decide, by decide, rfl, rfl⟩
theorem fl_X7_28 : am_fR RX7 28 7 8 39 := ⟨Or.inl (am_wd (i := 911) (by decide +kernel) (by decide +kernel)), by decide, by decide, rfl, rfl⟩
theorem fl_X7_31 : am_fR RX7 31 7 9 39 := ⟨Or.inl (am_wd (i := 912) (by decide +kernel) (by decide +kernel)), by decide, by decide, rfl, rfl⟩
theorem fl_X7_34 : am_fR RX7 34 7 10 39 := ⟨Or.inl (am_wd (i := 913) (by decide +kernel) (by decide +kernel)), by decide, by decide, rfl, rfl⟩
theorem fl_X7_79 : am_fI RX7 79 7 11 39 := ⟨Or.inl (am_wd (i := 914) (by decide +kernel) (by decide +kernel)), by decide, by decide, rfl, rfl⟩
theorem fl_X7_37 : am_fR RX7 37 7 12 39 := ⟨Or.inl (am_wd (i := 915) (by decide +kernel) (by decide +kernel)), by decide, by decide, rfl, rfl⟩
theorem fl_X7_40 : am_fR RX7 40 7 13 39 := ⟨Or.inl (am_wd (i := 916) (by decide +kernel) (by decide +kernel)), by decide, by decide, rfl, rfl⟩
theorem fl_X7_97 : am_fI RX7 97 7 14 39 := ⟨Or.inl (am_wd (i := 917) (by decide +kernel) (by decide +kernel)), by decide, by decide, rfl, rfl⟩
theorem fl_X7_100 : am_fI RX7 100 7 15 39 := ⟨Or.inl (am_wd (i := 918) (by decide +kernel) (by decide +kernel)), by decide, by decide, rfl, rfl⟩
theorem fl_X7_270 : am_fI RX7 270 7 16 39 := ⟨Or.inl (am_wd (i := 919) (by decide +kernel) (by decide +kernel)), by decide, by decide, rfl, rfl⟩
theorem fl_X7_274 : am_fI RX7 274 7 17 39 := ⟨Or.inl (am_wd (i := 920) (by decide +kernel) (by decide +kernel)), by decide, by decide, rfl, rfl⟩
theorem fl_X7_277 : am_fI RX7 277 7 18 39 := ⟨Or.inl (am_wd (i := 921) (by decide +kernel) (by decide +kernel)), by decide, by decide, rfl, rfl⟩
theorem fl_X7_280 : am_fI RX7 280 7 19 39 := ⟨Or.inl (am_wd (i := 922) (by decide +kernel) (by decide +kernel)), by decide, by decide, rfl, rfl⟩
theorem fl_X7_43 : am_fR RX7 43 7 20 39 := ⟨Or.inl (am_wd (i := 923) (by decide +kernel) (by decide +kernel)), by decide, by decide, rfl, rfl⟩
theorem fl_X7_46 : am_fR RX7 46 7 21 39 := ⟨Or.inl (am_wd (i := 924) (by decide +kernel) (by decide +kernel)), by decide, by decide, rfl, rfl⟩
theorem fl_X7_49 : am_fR RX7 49 7 22 39 := ⟨Or.inl (am_wd (i := 925) (by decide +kernel) (by decide +kernel)), by decide, by decide, rfl, rfl⟩
theorem fl_X7_52 : am_fR RX7 52 7 23 39 := ⟨Or.inl (am_wd (i := 926) (by decide +kernel) (by decide +kernel)), by decide, by decide, rfl, rfl⟩
theorem fl_X7_55 : am_fR RX7 55 7 24 39 := ⟨Or.inl (am_wd (i := 927) (by decide +kernel) (by decide +kernel)), by decide, by decide, rfl, rfl⟩
theorem fl_X7_58 : am_fR RX7 58 7 25 39 := ⟨Or.inl (am_wd (i := 928) (by decide +kernel) (by decide +kernel)), by decide, by decide, rfl, rfl⟩
theorem fl_X7_61 : am_fR RX7 61 7 26 39 := ⟨Or.inl (am_wd (i := 929) (by decide +kernel) (by decide +kernel)), by decide, by decide, rfl, rfl⟩
theorem fl_X7_107 : am_fI RX7 107 7 27 39 := ⟨Or.inl (am_wd (i := 930) (by decide +kernel) (by decide +kernel)), by decide, by decide, rfl, rfl⟩
theorem fl_X7_110 : am_fI RX7 110 7 28 39 := ⟨Or.inl (am_wd (i := 931) (by decide +kernel) (by decide +kernel)), by decide, by decide, rfl, rfl⟩
theorem fl_X7_113 : am_fI RX7 113 7 29 39 := ⟨Or.inl (am_wd (i := 932) (by decide +kernel) (by decide +kernel)), by decide, by decide, rfl, rfl⟩
theorem fl_X7_116 : am_fI RX7 116 7 30 39 := ⟨Or.inl (am_wd (i := 933) (by decide +kernel) (by decide +kernel)), by decide, by decide, rfl, rfl⟩
theorem fl_X7_64 : am_fR RX7 64 7 31 39 := ⟨Or.inl (am_wd (i := 934) (by decide +kernel) (by decide +kernel)), by decide, by decide, rfl, rfl⟩
theorem fl_X7_67 : am_fR RX7 67 7 32 39 := ⟨Or.inl (am_wd (i := 935) (by decide +kernel) (by decide +kernel)), by decide, by decide, rfl, rfl⟩
theorem fl_X7_126 : am_fI RX7 126 7 33 39 := ⟨Or.inl (am_wd (i := 936) (by decide +kernel) (by decide +kernel)), by decide, by decide, rfl, rfl⟩
theorem fl_X7_133 : am_fI RX7 133 7 34 39 := ⟨Or.inl (am_wd (i := 937) (by decide +kernel) (by decide +kernel)), by decide, by decide, rfl, rfl⟩
theorem fl_X7_123 : am_fI RX7 123 7 35 39 := ⟨Or.inl (am_wd (i := 938) (by decide +kernel) (by decide +kernel)), by decide, by decide, rfl, rfl⟩
theorem fl_X7_70 : am_fR RX7 70 7 36 39 := ⟨Or.inl (am_wd (i := 939) (by decide +kernel) (by decide +kernel)), by decide, by decide, rfl, rfl⟩
theorem fl_X7_73 : am_fR RX7 73 7 37 39 := ⟨Or.inl (am_wd (i := 940) (by decide +kernel) (by decide +kernel)), by decide, by decide, rfl, rfl⟩
theorem fl_X7_76 : am_fR RX7 76 7 38 39 := ⟨Or.inl (am_wd (i := 941) (by decide +kernel) (by decide +kernel)), by decide, by decide, rfl, rfl⟩
theorem fl_ka : Cond.fieldLink RX1 28 RX1 "KIND_ABOVE" "[I" ∈ am_tbl := am_wd (i := 601) (by decide +kernel) (by decide +kernel)
