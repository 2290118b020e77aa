abbrev mX6_sheetAt : am_Mi := (yX6_sheetAt, cX6_sheetAt, 2, (some (.object "QuestionsInAnInn$Sheet")))
theorem moX6_sheetAt : am_ok mX6_sheetAt 1 := ⟨am_wd (i := 745) (by decide +kernel) (by decide +kernel), am_wd (i := 70) (by decide +kernel) (by decide +kernel), ⟨by decide +kernel, by decide +kernel, by decide +kernel⟩, by decide +kernel⟩
theorem mfX6_sheetAt : am_mV mX6_sheetAt 1 := ⟨moX6_sheetAt, am_wd (i := 744) (by decide +kernel) (by decide +kernel), am_wd (i := 29) (by decide +kernel) (by decide +kernel)⟩
abbrev mX3_isMissing : am_Mi := (yX3_isMissing, cX3_isMissing, 1, (some .boolean))
theorem moX3_isMissing : am_ok mX3_isMissing 0 := ⟨am_wd (i := 749) (by decide +kernel) (by decide +kernel), am_wd (i := 72) (by decide +kernel) (by decide +kernel), ⟨by decide +kernel, by decide +kernel, by decide +kernel⟩, by decide +kernel⟩
theorem mfX3_isMissing : am_mV mX3_isMissing 0 := ⟨moX3_isMissing, am_wd (i := 747) (by decide +kernel) (by decide +kernel), am_wd (i := 748) (by decide +kernel) (by decide +kernel)⟩
abbrev mX6_firstOtherwise : am_Mi := (yX6_firstOtherwise, cX6_firstOtherwise, 5, (some .int))
theorem moX6_firstOtherwise : am_ok mX6_firstOtherwise 2 := ⟨am_wd (i := 753) (by decide +kernel) (by decide +kernel), am_wd (i := 70) (by decide +kernel) (by decide +kernel), ⟨by decide +kernel, by decide +kernel, by decide +kernel⟩, by decide +kernel⟩
theorem mfX6_firstOtherwise : am_mV mX6_firstOtherwise 2 := ⟨moX6_firstOtherwise, am_wd (i := 752) (by decide +kernel) (by decide +kernel), am_wd (i := 30) (by decide +kernel) (by decide +kernel)⟩
abbrev mX3_get : am_Mi := (yX3_get, cX3_get, 2, (some .int))
theorem moX3_get : am_ok mX3_get 1 := ⟨am_wd (i := 757) (by decide +kernel) (by decide +kernel), am_wd (i := 72) (by decide +kernel) (by decide +kernel), ⟨by decide +kernel, by decide +kernel, by decide +kernel⟩, by decide +kernel⟩
theorem mfX3_get : am_mV mX3_get 1 := ⟨moX3_get, am_wd (i := 755) (by decide +kernel) (by decide +kernel), am_wd (i := 756) (by decide +kernel) (by decide +kernel)⟩
abbrev mX3_has : am_Mi := (yX3_has, cX3_has, 2, (some .boolean))
theorem moX3_has : am_ok mX3_has 1 := ⟨am_wd (i := 761) (by decide +kernel) (by decide +kernel), am_wd (i := 72) (by decide +kernel) (by decide +kernel), ⟨by decide +kernel, by decide +kernel, by decide +kernel⟩, by decide +kernel⟩
theorem mfX3_has : am_mV mX3_has 1 := ⟨moX3_has, am_wd (i := 759) (by decide +kernel) (by decide +kernel), am_wd (i := 760) (by decide +kernel) (by decide +kernel)⟩
abbrev mX6_whose : am_Mi := (yX6_whose, cX6_whose, 5, (some .int))
theorem moX6_whose : am_ok mX6_whose 1 := ⟨am_wd (i := 765) (by decide +kernel) (by decide +kernel), am_wd (i := 70) (by decide +kernel) (by decide +kernel), ⟨by decide +kernel, by decide +kernel, by decide +kernel⟩, by decide +kernel⟩
theorem mfX6_whose : am_mV mX6_whose 1 := ⟨moX6_whose, am_wd (i := 763) (by decide +kernel) (by decide +kernel), am_wd (i := 764) (by decide +kernel) (by decide +kernel)⟩
abbrev mX6_depth : am_Mi := (yX6_depth, cX6_depth, 9, (some .int))
theorem moX6_depth : am_ok mX6_depth 3 := ⟨am_wd (i := 769) (by decide +kernel) (by decide +kernel), am_wd (i := 70) (by decide +kernel) (by decide +kernel), ⟨by decide +kernel, by decide +kernel, by decide +kernel⟩, by decide +kernel⟩
theorem mfX6_depth : am_mV mX6_depth 3 := ⟨moX6_depth, am_wd (i := 767) (by decide +kernel) (by decide +kernel), am_wd (i := 768) (by decide +kernel) (by decide +kernel)⟩
abbrev mX6_laws : am_Mi := (yX6_laws, cX6_laws, 7, (some .int))
theorem moX6_laws : am_ok mX6_laws 2 := ⟨am_wd (i := 773) (by decide +kernel) (by decide +kernel), am_wd (i := 70) (by decide +kernel) (by decide +kernel), ⟨by decide +kernel, by decide +kernel, by decide +kernel⟩, by decide +kernel⟩
theorem mfX6_laws : am_mV mX6_laws 2 := ⟨moX6_laws, am_wd (i := 771) (by decide +kernel) (by decide +kernel), am_wd (i := 772) (by decide +kernel) (by decide +kernel)⟩
abbrev mX6_film : am_Mi := (yX6_film, cX6_film, 5, (some .int))
theorem moX6_film : am_ok mX6_film 2 := ⟨am_wd (i := 777) (by decide +kernel) (by decide +kernel), am_wd (i := 70) (by decide +kernel) (by decide +kernel), ⟨by decide +kernel, by decide +kernel, by decide +kernel⟩, by decide +kernel⟩
theorem mfX6_film : am_mV mX6_film 2 := ⟨moX6_film, am_wd (i := 775) (by decide +kernel) (by decide +kernel), am_wd (i := 776) (by decide +kernel) (by decide +kernel)⟩
abbrev mX3_become : am_Mi := (yX3_become, cX3_become, 3, none)
theorem moX3_become : am_ok mX3_become 2 := ⟨am_wd (i := 781) (by decide +kernel) (by decide +kernel), am_wd (i := 72) (by decide +kernel) (by decide +kernel), ⟨by decide +kernel, by decide +kernel, by decide +kernel⟩, by decide +kernel⟩
theorem mfX3_become : am_mV mX3_become 2 := ⟨moX3_become, am_wd (i := 779) (by decide +kernel) (by decide +kernel), am_wd (i := 780) (by decide +kernel) (by decide +kernel)⟩
abbrev mJ7_fill_53178 : am_Mi := (yJ7_fill_53178, cJ7_fill_53178, 4, none)
theorem moJ7_fill_53178 : am_ok mJ7_fill_53178 2 := ⟨am_wd (i := 785) (by decide +kernel) (by decide +kernel), am_wd (i := 80) (by decide +kernel) (by decide +kernel), ⟨by decide +kernel, by decide +kernel, by decide +kernel⟩, by decide +kernel⟩
theorem mfJ7_fill_53178 : am_mS mJ7_fill_53178 2 := ⟨moJ7_fill_53178, am_wd (i := 784) (by decide +kernel) (by decide +kernel)⟩
abbrev mX3_put : am_Mi := (yX3_put, cX3_put, 3, none)
theorem moX3_put : am_ok mX3_put 2 := ⟨am_wd (i := 789) (by decide +kernel) (by decide +kernel), am_wd (i := 72) (by decide +kernel) (by decide +kernel), ⟨by decide +kernel, by decide +kernel, by decide +kernel⟩, by decide +kernel⟩
theorem mfX3_put : am_mV mX3_put 2 := ⟨moX3_put, am_wd (i := 787) (by decide +kernel) (by decide +kernel), am_wd (i := 788) (by decide +kernel) (by decide +kernel)⟩
abbrev mX6_drawn : am_Mi := (yX6_drawn, cX6_drawn, 2, (some .int))
theorem moX6_drawn : am_ok mX6_drawn 1 := ⟨am_wd (i := 793) (by decide +kernel) (by decide +kernel), am_wd (i := 70) (by decide +kernel) (by decide +kernel), ⟨by decide +kernel, by decide +kernel, by decide +kernel⟩, by decide +kernel⟩
theorem mfX6_drawn : am_mV mX6_drawn 1 := ⟨moX6_drawn, am_wd (i := 791) (by decide +kernel) (by decide +kernel), am_wd (i := 792) (by decide +kernel) (by decide +kernel)⟩
abbrev mX6_winnerBy : am_Mi := (yX6_winnerBy, cX6_winnerBy, 8, (some .int))
theorem moX6_winnerBy : am_ok mX6_winnerBy 1 := ⟨am_wd (i := 798) (by decide +kernel) (by decide +kernel), am_wd (i := 70) (by decide +kernel) (by decide +kernel), ⟨by decide +kernel, by decide +kernel, by decide +kernel⟩, by decide +kernel⟩
theorem mfX6_winnerBy : am_mV mX6_winnerBy 1 := ⟨moX6_winnerBy, am_wd (i := 797) (by decide +kernel) (by decide +kernel), am_wd (i := 31) (by decide +kernel) (by decide +kernel)⟩
abbrev mX6_keepDepths : am_Mi := (yX6_keepDepths, cX6_keepDepths, 4, none)
theorem moX6_keepDepths : am_ok mX6_keepDepths 1 := ⟨am_wd (i := 802) (by decide +kernel) (by decide +kernel), am_wd (i := 70) (by decide +kernel) (by decide +kernel), ⟨by decide +kernel, by decide +kernel, by decide +kernel⟩, by decide +kernel⟩
theorem mfX6_keepDepths : am_mV mX6_keepDepths 1 := ⟨moX6_keepDepths, am_wd (i := 801) (by decide +kernel) (by decide +kernel), am_wd (i := 32) (by decide +kernel) (by decide +kernel)⟩
abbrev mX6_giveDepths : am_Mi := (yX6_giveDepths, cX6_giveDepths, 4, none)
theorem moX6_giveDepths : am_ok mX6_giveDepths 1 := ⟨am_wd (i := 809) (by decide +kernel) (by decide +kernel), am_wd (i := 70) (by decide +kernel) (by decide +kernel), ⟨by decide +kernel, by decide +kernel, by decide +kernel⟩, by decide +kernel⟩
theorem mfX6_giveDepths : am_mV mX6_giveDepths 1 := ⟨moX6_giveDepths, am_wd (i := 808) (by decide +kernel) (by decide +kernel), am_wd (i := 33) (by decide +kernel) (by decide +kernel)⟩
abbrev mX6_odds : am_Mi := (yX6_odds, cX6_odds, 7, (some .long))
theorem moX6_odds : am_ok mX6_odds 4 := ⟨am_wd (i := 813) (by decide +kernel) (by decide +kernel), am_wd (i := 70) (by decide +kernel) (by decide +kernel), ⟨by decide +kernel, by decide +kernel, by decide +kernel⟩, by decide +kernel⟩
theorem mfX6_odds : am_mV mX6_odds 4 := ⟨moX6_odds, am_wd (i := 811) (by decide +kernel) (by decide +kernel), am_wd (i := 812) (by decide +kernel) (by decide +kernel)⟩
abbrev mX6_image : am_Mi := (yX6_image, cX6_image, 3, (some .int))
theorem moX6_image : am_ok mX6_image 0 := ⟨am_wd (i := 817) (by decide +kernel) (by decide +kernel), am_wd (i := 70) (by decide +kernel) (by decide +kernel), ⟨by decide +kernel, by decide +kernel, by decide +kernel⟩, by decide +kernel⟩
theorem mfX6_image : am_mV mX6_image 0 := ⟨moX6_image, am_wd (i := 815) (by decide +kernel) (by decide +kernel), am_wd (i := 816) (by decide +kernel) (by decide +kernel)⟩
abbrev mX6_back : am_Mi := (yX6_back, cX6_back, 3, (some .int))
theorem moX6_back : am_ok mX6_back 0 := ⟨am_wd (i := 822) (by decide +kernel) (by decide +kernel), am_wd (i := 70) (by decide +kernel) (by decide +kernel), ⟨by decide +kernel, by decide +kernel, by decide +kernel⟩, by decide +kernel⟩
theorem mfX6_back : am_mV mX6_back 0 := ⟨moX6_back, am_wd (i := 820) (by decide +kernel) (by decide +kernel), am_wd (i := 821) (by decide +kernel) (by decide +kernel)⟩
abbrev mX6_sheet : am_Mi := (yX6_sheet, cX6_sheet, 5, (some .int))
theorem moX6_sheet : am_ok mX6_sheet 3 := ⟨am_wd (i := 826) (by decide +kernel) (by decide +kernel), am_wd (i := 70) (by decide +kernel) (by decide +kernel), ⟨by decide +kernel, by decide +kernel, by decide +kernel⟩, by decide +kernel⟩
theorem mfX6_sheet : am_mV mX6_sheet 3 := ⟨moX6_sheet, am_wd (i := 824) (by decide +kernel) (by decide +kernel), am_wd (i := 825) (by decide +kernel) (by decide +kernel)⟩
abbrev mX6_cell : am_Mi := (yX6_cell, cX6_cell, 5, (some .int))
theorem moX6_cell : am_ok mX6_cell 3 := ⟨am_wd (i := 830) (by decide +kernel) (by decide +kernel), am_wd (i := 70) (by decide +kernel) (by decide +kernel), ⟨by decide +kernel, by decide +kernel, by decide +kernel⟩, by decide +kernel⟩
theorem mfX6_cell : am_mV mX6_cell 3 := ⟨moX6_cell, am_wd (i := 828) (by decide +kernel) (by decide +kernel), am_wd (i := 829) (by decide +kernel) (by decide +kernel)⟩
abbrev mX6_copy : am_Mi := (yX6_copy, cX6_copy, 8, (some .int))
theorem moX6_copy : am_ok mX6_copy 5 := ⟨am_wd (i := 835) (by decide +kernel) (by decide +kernel), am_wd (i := 70) (by decide +kernel) (by decide +kernel), ⟨by decide +kernel, by decide +kernel, by decide +kernel⟩, by decide +kernel⟩
theorem mfX6_copy : am_mV mX6_copy 5 := ⟨moX6_copy, am_wd (i := 833) (by decide +kernel) (by decide +kernel), am_wd (i := 834) (by decide +kernel) (by decide +kernel)⟩
abbrev mX3_hasRow : am_Mi := (yX3_hasRow, cX3_hasRow, 3, (some .boolean))
theorem moX3_hasRow : am_ok mX3_hasRow 2 := ⟨am_wd (i := 839) (by decide +kernel) (by decide +kernel), am_wd (i := 72) (by decide +kernel) (by decide +kernel), ⟨by decide +kernel, by decide +kernel, by decide +kernel⟩, by decide +kernel⟩
theorem mfX3_hasRow : am_mV mX3_hasRow 2 := ⟨moX3_hasRow, am_wd (i := 837) (by decide +kernel) (by decide +kernel), am_wd (i := 838) (by decide +kernel) (by decide +kernel)⟩
abbrev mX6_depthsBy : am_Mi := (yX6_depthsBy, cX6_depthsBy, 9, (some .int))
theorem moX6_depthsBy : am_ok mX6_depthsBy 4 := ⟨am_wd (i := 843) (by decide +kernel) (by decide +kernel), am_wd (i := 70) (by decide +kernel) (by decide +kernel), ⟨by decide +kernel, by decide +kernel, by decide +kernel⟩, by decide +kernel⟩
theorem mfX6_depthsBy : am_mV mX6_depthsBy 4 := ⟨moX6_depthsBy, am_wd (i := 841) (by decide +kernel) (by decide +kernel), am_wd (i := 842) (by decide +kernel) (by decide +kernel)⟩
abbrev mX6_taken : am_Mi := (yX6_taken, cX6_taken, 4, (some .int))
theorem moX6_taken : am_ok mX6_taken 2 := ⟨am_wd (i := 848) (by decide +kernel) (by decide +kernel), am_wd (i := 70) (by decide +kernel) (by decide +kernel), ⟨by decide +kernel, by decide +kernel, by decide +kernel⟩, by decide +kernel⟩
theorem mfX6_taken : am_mV mX6_taken 2 := ⟨moX6_taken, am_wd (i := 846) (by decide +kernel) (by decide +kernel), am_wd (i := 847) (by decide +kernel) (by decide +kernel)⟩
abbrev mX7_init : am_Mi := (yX7_init, cX7_init, 2, none)
set_option maxRecDepth 200000 in
theorem am_x7c : am_code mX7_init ∈ am_tbl := List.mem_filter.mpr ⟨(show am_code mX7_init ∈ k2_sels lw_privs ++ (tables_1_1 ++ (tables_1_2 ++ (tables_1_3 ++ (tables_1_4 ++ (tables_1_5 ++ tables_1_6))))) from List.mem_append_right _ (List.mem_append_right _ (List.mem_append_right _ (List.mem_append_right _ (List.mem_append_left _ (List.mem_of_getElem? (i := 65) rfl)))))), by decide +kernel⟩
theorem moX7_init : am_ok mX7_init 0 := ⟨am_x7c, am_wd (i := 83) (by decide +kernel) (by decide +kernel), ⟨by decide +kernel, by decide +kernel, by decide +kernel⟩, by decide +kernel⟩
theorem mfX7_init : am_mI mX7_init 0 := ⟨moX7_init, am_wd (i := 853) (by decide +kernel) (by decide +kernel), by decide +kernel, rfl⟩
abbrev mX7_text : am_Mi := (yX7_text, cX7_text, 3, (some .int))
theorem moX7_text : am_ok mX7_text 0 := ⟨am_wd (i := 859) (by decide +kernel) (by decide +kernel), am_wd (i := 83) (by decide +kernel) (by decide +kernel), ⟨by decide +kernel, by decide +kernel, by decide +kernel⟩, by decide +kernel⟩
theorem mfX7_text : am_mV mX7_text 0 := ⟨moX7_text, am_wd (i := 857) (by decide +kernel) (by decide +kernel), am_wd (i := 858) (by decide +kernel) (by decide +kernel)⟩
abbrev mX7_next : am_Mi := (yX7_next, cX7_next, 3, none)
theorem moX7_next : am_ok mX7_next 0 := ⟨am_wd (i := 863) (by decide +kernel) (by decide +kernel), am_wd (i := 83) (by decide +kernel) (by decide +kernel), ⟨by decide +kernel, by decide +kernel, by decide +kernel⟩, by decide +kernel⟩
theorem mfX7_next : am_mV mX7_next 0 := ⟨moX7_next, am_wd (i := 862) (by decide +kernel) (by decide +kernel), am_wd (i := 34) (by decide +kernel) (by decide +kernel)⟩
abbrev mX7_in : am_Mi := (yX7_in, cX7_in, 3, (some .boolean))
theorem moX7_in : am_ok mX7_in 3 := ⟨am_wd (i := 866) (by decide +kernel) (by decide +kernel), am_wd (i := 83) (by decide +kernel) (by decide +kernel), ⟨by decide +kernel, by decide +kernel, by decide +kernel⟩, by decide +kernel⟩
theorem mfX7_in : am_mS mX7_in 3 := ⟨moX7_in, am_wd (i := 865) (by decide +kernel) (by decide +kernel)⟩
abbrev mX7_wordFrom : am_Mi := (yX7_wordFrom, cX7_wordFrom, 6, (some .int))
theorem moX7_wordFrom : am_ok mX7_wordFrom 2 := ⟨am_wd (i := 870) (by decide +kernel) (by decide +kernel), am_wd (i := 83) (by decide +kernel) (by decide +kernel), ⟨by decide +kernel, by decide +kernel, by decide +kernel⟩, by decide +kernel⟩
theorem mfX7_wordFrom : am_mV mX7_wordFrom 2 := ⟨moX7_wordFrom, am_wd (i := 869) (by decide +kernel) (by decide +kernel), am_wd (i := 35) (by decide +kernel) (by decide +kernel)⟩
abbrev mX7_eRead : am_Mi := (yX7_eRead, cX7_eRead, 4, (some .boolean))
theorem moX7_eRead : am_ok mX7_eRead 0 := ⟨am_wd (i := 874) (by decide +kernel) (by decide +kernel), am_wd (i := 83) (by decide +kernel) (by decide +kernel), ⟨by decide +kernel, by decide +kernel, by decide +kernel⟩, by decide +kernel⟩
theorem mfX7_eRead : am_mV mX7_eRead 0 := ⟨moX7_eRead, am_wd (i := 873) (by decide +kernel) (by decide +kernel), am_wd (i := 36) (by decide +kernel) (by decide +kernel)⟩
abbrev mX7_puts : am_Mi := (yX7_puts, cX7_puts, 2, none)
theorem moX7_puts : am_ok mX7_puts 1 := ⟨am_wd (i := 879) (by decide +kernel) (by decide +kernel), am_wd (i := 83) (by decide +kernel) (by decide +kernel), ⟨by decide +kernel, by decide +kernel, by decide +kernel⟩, by decide +kernel⟩
theorem mfX7_puts : am_mV mX7_puts 1 := ⟨moX7_puts, am_wd (i := 878) (by decide +kernel) (by decide +kernel), am_wd (i := 37) (by decide +kernel) (by decide +kernel)⟩
abbrev mX7_unwinds : am_Mi := (yX7_unwinds, cX7_unwinds, 3, none)
theorem moX7_unwinds : am_ok mX7_unwinds 1 := ⟨am_wd (i := 883) (by decide +kernel) (by decide +kernel), am_wd (i := 83) (by decide +kernel) (by decide +kernel), ⟨by decide +kernel, by decide +kernel, by decide +kernel⟩, by decide +kernel⟩
theorem mfX7_unwinds : am_mV mX7_unwinds 1 := ⟨moX7_unwinds, am_wd (i := 882) (by decide +kernel) (by decide +kernel), am_wd (i := 38) (by decide +kernel) (by decide +kernel)⟩
abbrev mX7_rank : am_Mi := (yX7_rank, cX7_rank, 1, (some .int))
theorem moX7_rank : am_ok mX7_rank 1 := ⟨am_wd (i := 886) (by decide +kernel) (by decide +kernel), am_wd (i := 83) (by decide +kernel) (by decide +kernel), ⟨by decide +kernel, by decide +kernel, by decide +kernel⟩, by decide +kernel⟩
theorem mfX7_rank : am_mS mX7_rank 1 := ⟨moX7_rank, am_wd (i := 885) (by decide +kernel) (by decide +kernel)⟩
abbrev mX7_opensOne : am_Mi := (yX7_opensOne, cX7_opensOne, 2, (some .boolean))
theorem moX7_opensOne : am_ok mX7_opensOne 1 := ⟨am_wd (i := 890) (by decide +kernel) (by decide +kernel), am_wd (i := 83) (by decide +kernel) (by decide +kernel), ⟨by decide +kernel, by decide +kernel, by decide +kernel⟩, by decide +kernel⟩
theorem mfX7_opensOne : am_mV mX7_opensOne 1 := ⟨moX7_opensOne, am_wd (i := 889) (by decide +kernel) (by decide +kernel), am_wd (i := 39) (by decide +kernel) (by decide +kernel)⟩
abbrev mX7_holds : am_Mi := (yX7_holds, cX7_holds, 2, none)
theorem moX7_holds : am_ok mX7_holds 1 := ⟨am_wd (i := 894) (by decide +kernel) (by decide +kernel), am_wd (i := 83) (by decide +kernel) (by decide +kernel), ⟨by decide +kernel, by decide +kernel, by decide +kernel⟩, by decide +kernel⟩
theorem mfX7_holds : am_mV mX7_holds 1 := ⟨moX7_holds, am_wd (i := 893) (by decide +kernel) (by decide +kernel), am_wd (i := 40) (by decide +kernel) (by decide +kernel)⟩
abbrev mX7_signOf : am_Mi := (yX7_signOf, cX7_signOf, 1, (some .int))
theorem moX7_signOf : am_ok mX7_signOf 0 := ⟨am_wd (i := 898) (by decide +kernel) (by decide +kernel), am_wd (i := 83) (by decide +kernel) (by decide +kernel), ⟨by decide +kernel, by decide +kernel, by decide +kernel⟩, by decide +kernel⟩
theorem mfX7_signOf : am_mV mX7_signOf 0 := ⟨moX7_signOf, am_wd (i := 897) (by decide +kernel) (by decide +kernel), am_wd (i := 41) (by decide +kernel) (by decide +kernel)⟩
abbrev mX7_between : am_Mi := (yX7_between, cX7_between, 2, (some .boolean))
theorem moX7_between : am_ok mX7_between 1 := ⟨am_wd (i := 902) (by decide +kernel) (by decide +kernel), am_wd (i := 83) (by decide +kernel) (by decide +kernel), ⟨by decide +kernel, by decide +kernel, by decide +kernel⟩, by decide +kernel⟩
theorem mfX7_between : am_mV mX7_between 1 := ⟨moX7_between, am_wd (i := 901) (by decide +kernel) (by decide +kernel), am_wd (i := 42) (by decide +kernel) (by decide +kernel)⟩
abbrev mX7_count : am_Mi := (yX7_count, cX7_count, 2, (some .int))
theorem moX7_count : am_ok mX7_count 1 := ⟨am_wd (i := 1024) (by decide +kernel) (by decide +kernel), am_wd (i := 83) (by decide +kernel) (by decide +kernel), ⟨by decide +kernel, by decide +kernel, by decide +kernel⟩, by decide +kernel⟩
theorem mfX7_count : am_mV mX7_count 1 := ⟨moX7_count, am_wd (i := 1022) (by decide +kernel) (by decide +kernel), am_wd (i := 1023) (by decide +kernel) (by decide +kernel)⟩
abbrev mX7_feed : am_Mi := (yX7_feed, cX7_feed, 8, (some .int))
theorem moX7_feed : am_ok mX7_feed 6 := ⟨am_wd (i := 1028) (by decide +kernel) (by decide +kernel), am_wd (i := 83) (by decide +kernel) (by decide +kernel), ⟨by decide +kernel, by decide +kernel, by decide +kernel⟩, by decide +kernel⟩
theorem mfX7_feed : am_mV mX7_feed 6 := ⟨moX7_feed, am_wd (i := 1026) (by decide +kernel) (by decide +kernel), am_wd (i := 1027) (by decide +kernel) (by decide +kernel)⟩
abbrev mX7_isByte : am_Mi := (yX7_isByte, cX7_isByte, 1, (some .boolean))
theorem moX7_isByte : am_ok mX7_isByte 1 := ⟨am_wd (i := 1031) (by decide +kernel) (by decide +kernel), am_wd (i := 83) (by decide +kernel) (by decide +kernel), ⟨by decide +kernel, by decide +kernel, by decide +kernel⟩, by decide +kernel⟩
theorem mfX7_isByte : am_mS mX7_isByte 1 := ⟨moX7_isByte, am_wd (i := 1030) (by decide +kernel) (by decide +kernel)⟩
abbrev mX7_force : am_Mi := (yX7_force, cX7_force, 3, (some .int))
theorem moX7_force : am_ok mX7_force 1 := ⟨am_wd (i := 1036) (by decide +kernel) (by decide +kernel), am_wd (i := 83) (by decide +kernel) (by decide +kernel), ⟨by decide +kernel, by decide +kernel, by decide +kernel⟩, by decide +kernel⟩
theorem mfX7_force : am_mV mX7_force 1 := ⟨moX7_force, am_wd (i := 1034) (by decide +kernel) (by decide +kernel), am_wd (i := 1035) (by decide +kernel) (by decide +kernel)⟩
abbrev mX7_asks : am_Mi := (yX7_asks, cX7_asks, 7, (some .int))
theorem moX7_asks : am_ok mX7_asks 5 := ⟨am_wd (i := 1040) (by decide +kernel) (by decide +kernel), am_wd (i := 83) (by decide +kernel) (by decide +kernel), ⟨by decide +kernel, by decide +kernel, by decide +kernel⟩, by decide +kernel⟩
theorem mfX7_asks : am_mV mX7_asks 5 := ⟨moX7_asks, am_wd (i := 1038) (by decide +kernel) (by decide +kernel), am_wd (i := 1039) (by decide +kernel) (by decide +kernel)⟩
abbrev mX7_asksOf : am_Mi := (yX7_asksOf, cX7_asksOf, 8, (some .int))
theorem moX7_asksOf : am_ok mX7_asksOf 7 := ⟨am_wd (i := 1044) (by decide +kernel) (by decide +kernel), am_wd (i := 83) (by decide +kernel) (by decide +kernel), ⟨by decide +kernel, by decide +kernel, by decide +kernel⟩, by decide +kernel⟩
theorem mfX7_asksOf : am_mV mX7_asksOf 7 := ⟨moX7_asksOf, am_wd (i := 1043) (by decide +kernel) (by decide +kernel), am_wd (i := 43) (by decide +kernel) (by decide +kernel)⟩
abbrev mX7_says : am_Mi := (yX7_says, cX7_says, 5, (some .int))
theorem moX7_says : am_ok mX7_says 1 := ⟨am_wd (i := 1048) (by decide +kernel) (by decide +kernel), am_wd (i := 83) (by decide +kernel) (by decide +kernel), ⟨by decide +kernel, by decide +kernel, by decide +kernel⟩, by decide +kernel⟩
theorem mfX7_says : am_mV mX7_says 1 := ⟨moX7_says, am_wd (i := 1047) (by decide +kernel) (by decide +kernel), am_wd (i := 44) (by decide +kernel) (by decide +kernel)⟩
abbrev mX7_two : am_Mi := (yX7_two, cX7_two, 3, (some .int))
theorem moX7_two : am_ok mX7_two 3 := ⟨am_wd (i := 1051) (by decide +kernel) (by decide +kernel), am_wd (i := 83) (by decide +kernel) (by decide +kernel), ⟨by decide +kernel, by decide +kernel, by decide +kernel⟩, by decide +kernel⟩
theorem mfX7_two : am_mS mX7_two 3 := ⟨moX7_two, am_wd (i := 1050) (by decide +kernel) (by decide +kernel)⟩
abbrev mX7_within : am_Mi := (yX7_within, cX7_within, 3, (some .int))
theorem moX7_within : am_ok mX7_within 3 := ⟨am_wd (i := 1054) (by decide +kernel) (by decide +kernel), am_wd (i := 83) (by decide +kernel) (by decide +kernel), ⟨by decide +kernel, by decide +kernel, by decide +kernel⟩, by decide +kernel⟩
theorem mfX7_within : am_mS mX7_within 3 := ⟨moX7_within, am_wd (i := 1053) (by decide +kernel) (by decide +kernel)⟩
abbrev mX7_come : am_Mi := (yX7_come, cX7_come, 5, (some .int))
theorem moX7_come : am_ok mX7_come 3 := ⟨am_wd (i := 1058) (by decide +kernel) (by decide +kernel), am_wd (i := 83) (by decide +kernel) (by decide +kernel), ⟨by decide +kernel, by decide +kernel, by decide +kernel⟩, by decide +kernel⟩
theorem mfX7_come : am_mV mX7_come 3 := ⟨moX7_come, am_wd (i := 1056) (by decide +kernel) (by decide +kernel), am_wd (i := 1057) (by decide +kernel) (by decide +kernel)⟩
abbrev mX7_learn : am_Mi := (yX7_learn, cX7_learn, 5, (some .int))
theorem moX7_learn : am_ok mX7_learn 3 := ⟨am_wd (i := 1062) (by decide +kernel) (by decide +kernel), am_wd (i := 83) (by decide +kernel) (by decide +kernel), ⟨by decide +kernel, by decide +kernel, by decide +kernel⟩, by decide +kernel⟩
theorem mfX7_learn : am_mV mX7_learn 3 := ⟨moX7_learn, am_wd (i := 1060) (by decide +kernel) (by decide +kernel), am_wd (i := 1061) (by decide +kernel) (by decide +kernel)⟩
abbrev mX7_isOne : am_Mi := (yX7_isOne, cX7_isOne, 2, (some .boolean))
theorem moX7_isOne : am_ok mX7_isOne 1 := ⟨am_wd (i := 1066) (by decide +kernel) (by decide +kernel), am_wd (i := 83) (by decide +kernel) (by decide +kernel), ⟨by decide +kernel, by decide +kernel, by decide +kernel⟩, by decide +kernel⟩
theorem mfX7_isOne : am_mV mX7_isOne 1 := ⟨moX7_isOne, am_wd (i := 1065) (by decide +kernel) (by decide +kernel), am_wd (i := 45) (by decide +kernel) (by decide +kernel)⟩
abbrev mX7_sit : am_Mi := (yX7_sit, cX7_sit, 4, (some .int))
theorem moX7_sit : am_ok mX7_sit 2 := ⟨am_wd (i := 1070) (by decide +kernel) (by decide +kernel), am_wd (i := 83) (by decide +kernel) (by decide +kernel), ⟨by decide +kernel, by decide +kernel, by decide +kernel⟩, by decide +kernel⟩
theorem mfX7_sit : am_mV mX7_sit 2 := ⟨moX7_sit, am_wd (i := 1068) (by decide +kernel) (by decide +kernel), am_wd (i := 1069) (by decide +kernel) (by decide +kernel)⟩
abbrev mX7_told : am_Mi := (yX7_told, cX7_told, 3, (some .int))
theorem moX7_told : am_ok mX7_told 2 := ⟨am_wd (i := 1074) (by decide +kernel) (by decide +kernel), am_wd (i := 83) (by decide +kernel) (by decide +kernel), ⟨by decide +kernel, by decide +kernel, by decide +kernel⟩, by decide +kernel⟩
theorem mfX7_told : am_mV mX7_told 2 := ⟨moX7_told, am_wd (i := 1072) (by decide +kernel) (by decide +kernel), am_wd (i := 1073) (by decide +kernel) (by decide +kernel)⟩
abbrev mX7_question : am_Mi := (yX7_question, cX7_question, 3, (some .int))
theorem moX7_question : am_ok mX7_question 2 := ⟨am_wd (i := 1078) (by decide +kernel) (by decide +kernel), am_wd (i := 83) (by decide +kernel) (by decide +kernel), ⟨by decide +kernel, by decide +kernel, by decide +kernel⟩, by decide +kernel⟩
theorem mfX7_question : am_mV mX7_question 2 := ⟨moX7_question, am_wd (i := 1076) (by decide +kernel) (by decide +kernel), am_wd (i := 1077) (by decide +kernel) (by decide +kernel)⟩
abbrev mX7_askedOf : am_Mi := (yX7_askedOf, cX7_askedOf, 3, (some .int))
theorem moX7_askedOf : am_ok mX7_askedOf 2 := ⟨am_wd (i := 1082) (by decide +kernel) (by decide +kernel), am_wd (i := 83) (by decide +kernel) (by decide +kernel), ⟨by decide +kernel, by decide +kernel, by decide +kernel⟩, by decide +kernel⟩
theorem mfX7_askedOf : am_mV mX7_askedOf 2 := ⟨moX7_askedOf, am_wd (i := 1080) (by decide +kernel) (by decide +kernel), am_wd (i := 1081) (by decide +kernel) (by decide +kernel)⟩
abbrev mX7_isQuestion : am_Mi := (yX7_isQuestion, cX7_isQuestion, 2, (some .boolean))
theorem moX7_isQuestion : am_ok mX7_isQuestion 1 := ⟨am_wd (i := 1086) (by decide +kernel) (by decide +kernel), am_wd (i := 83) (by decide +kernel) (by decide +kernel), ⟨by decide +kernel, by decide +kernel, by decide +kernel⟩, by decide +kernel⟩
theorem mfX7_isQuestion : am_mV mX7_isQuestion 1 := ⟨moX7_isQuestion, am_wd (i := 1085) (by decide +kernel) (by decide +kernel), am_wd (i := 46) (by decide +kernel) (by decide +kernel)⟩
abbrev mX7_lay : am_Mi := (yX7_lay, cX7_lay, 4, (some .int))
theorem moX7_lay : am_ok mX7_lay 2 := ⟨am_wd (i := 1090) (by decide +kernel) (by decide +kernel), am_wd (i := 83) (by decide +kernel) (by decide +kernel), ⟨by decide +kernel, by decide +kernel, by decide +kernel⟩, by decide +kernel⟩
theorem mfX7_lay : am_mV mX7_lay 2 := ⟨moX7_lay, am_wd (i := 1088) (by decide +kernel) (by decide +kernel), am_wd (i := 1089) (by decide +kernel) (by decide +kernel)⟩
abbrev mX7_isTable : am_Mi := (yX7_isTable, cX7_isTable, 1, (some .boolean))
theorem moX7_isTable : am_ok mX7_isTable 1 := ⟨am_wd (i := 1093) (by decide +kernel) (by decide +kernel), am_wd (i := 83) (by decide +kernel) (by decide +kernel), ⟨by decide +kernel, by decide +kernel, by decide +kernel⟩, by decide +kernel⟩
theorem mfX7_isTable : am_mS mX7_isTable 1 := ⟨moX7_isTable, am_wd (i := 1092) (by decide +kernel) (by decide +kernel)⟩
abbrev mX7_laid : am_Mi := (yX7_laid, cX7_laid, 2, (some .int))
theorem moX7_laid : am_ok mX7_laid 1 := ⟨am_wd (i := 1097) (by decide +kernel) (by decide +kernel), am_wd (i := 83) (by decide +kernel) (by decide +kernel), ⟨by decide +kernel, by decide +kernel, by decide +kernel⟩, by decide +kernel⟩
theorem mfX7_laid : am_mV mX7_laid 1 := ⟨moX7_laid, am_wd (i := 1095) (by decide +kernel) (by decide +kernel), am_wd (i := 1096) (by decide +kernel) (by decide +kernel)⟩
abbrev mX7_answer : am_Mi := (yX7_answer, cX7_answer, 4, (some .int))
theorem moX7_answer : am_ok mX7_answer 3 := ⟨am_wd (i := 1101) (by decide +kernel) (by decide +kernel), am_wd (i := 83) (by decide +kernel) (by decide +kernel), ⟨by decide +kernel, by decide +kernel, by decide +kernel⟩, by decide +kernel⟩
theorem mfX7_answer : am_mV mX7_answer 3 := ⟨moX7_answer, am_wd (i := 1099) (by decide +kernel) (by decide +kernel), am_wd (i := 1100) (by decide +kernel) (by decide +kernel)⟩
abbrev mX7_believed : am_Mi := (yX7_believed, cX7_believed, 8, (some .int))
theorem moX7_believed : am_ok mX7_believed 2 := ⟨am_wd (i := 1105) (by decide +kernel) (by decide +kernel), am_wd (i := 83) (by decide +kernel) (by decide +kernel), ⟨by decide +kernel, by decide +kernel, by decide +kernel⟩, by decide +kernel⟩
theorem mfX7_believed : am_mV mX7_believed 2 := ⟨moX7_believed, am_wd (i := 1104) (by decide +kernel) (by decide +kernel), am_wd (i := 47) (by decide +kernel) (by decide +kernel)⟩
abbrev mX7_weight : am_Mi := (yX7_weight, cX7_weight, 3, (some .int))
theorem moX7_weight : am_ok mX7_weight 2 := ⟨am_wd (i := 1109) (by decide +kernel) (by decide +kernel), am_wd (i := 83) (by decide +kernel) (by decide +kernel), ⟨by decide +kernel, by decide +kernel, by decide +kernel⟩, by decide +kernel⟩
theorem mfX7_weight : am_mV mX7_weight 2 := ⟨moX7_weight, am_wd (i := 1108) (by decide +kernel) (by decide +kernel), am_wd (i := 48) (by decide +kernel) (by decide +kernel)⟩
abbrev mX7_knows : am_Mi := (yX7_knows, cX7_knows, 8, (some .int))
theorem moX7_knows : am_ok mX7_knows 2 := ⟨am_wd (i := 1113) (by decide +kernel) (by decide +kernel), am_wd (i := 83) (by decide +kernel) (by decide +kernel), ⟨by decide +kernel, by decide +kernel, by decide +kernel⟩, by decide +kernel⟩
theorem mfX7_knows : am_mV mX7_knows 2 := ⟨moX7_knows, am_wd (i := 1112) (by decide +kernel) (by decide +kernel), am_wd (i := 49) (by decide +kernel) (by decide +kernel)⟩
abbrev mX7_loudOf : am_Mi := (yX7_loudOf, cX7_loudOf, 5, (some .int))
theorem moX7_loudOf : am_ok mX7_loudOf 2 := ⟨am_wd (i := 1117) (by decide +kernel) (by decide +kernel), am_wd (i := 83) (by decide +kernel) (by decide +kernel), ⟨by decide +kernel, by decide +kernel, by decide +kernel⟩, by decide +kernel⟩
theorem mfX7_loudOf : am_mV mX7_loudOf 2 := ⟨moX7_loudOf, am_wd (i := 1116) (by decide +kernel) (by decide +kernel), am_wd (i := 50) (by decide +kernel) (by decide +kernel)⟩
abbrev mX7_isRight : am_Mi := (yX7_isRight, cX7_isRight, 4, (some .boolean))
theorem moX7_isRight : am_ok mX7_isRight 2 := ⟨am_wd (i := 1121) (by decide +kernel) (by decide +kernel), am_wd (i := 83) (by decide +kernel) (by decide +kernel), ⟨by decide +kernel, by decide +kernel, by decide +kernel⟩, by decide +kernel⟩
theorem mfX7_isRight : am_mV mX7_isRight 2 := ⟨moX7_isRight, am_wd (i := 1120) (by decide +kernel) (by decide +kernel), am_wd (i := 51) (by decide +kernel) (by decide +kernel)⟩
abbrev mX7_canAnswer : am_Mi := (yX7_canAnswer, cX7_canAnswer, 3, (some .boolean))
theorem moX7_canAnswer : am_ok mX7_canAnswer 2 := ⟨am_wd (i := 1125) (by decide +kernel) (by decide +kernel), am_wd (i := 83) (by decide +kernel) (by decide +kernel), ⟨by decide +kernel, by decide +kernel, by decide +kernel⟩, by decide +kernel⟩
theorem mfX7_canAnswer : am_mV mX7_canAnswer 2 := ⟨moX7_canAnswer, am_wd (i := 1124) (by decide +kernel) (by decide +kernel), am_wd (i := 52) (by decide +kernel) (by decide +kernel)⟩
abbrev mX7_knowing : am_Mi := (yX7_knowing, cX7_knowing, 5, (some .int))
theorem moX7_knowing : am_ok mX7_knowing 2 := ⟨am_wd (i := 1129) (by decide +kernel) (by decide +kernel), am_wd (i := 83) (by decide +kernel) (by decide +kernel), ⟨by decide +kernel, by decide +kernel, by decide +kernel⟩, by decide +kernel⟩
theorem mfX7_knowing : am_mV mX7_knowing 2 := ⟨moX7_knowing, am_wd (i := 1128) (by decide +kernel) (by decide +kernel), am_wd (i := 53) (by decide +kernel) (by decide +kernel)⟩
abbrev mX7_score : am_Mi := (yX7_score, cX7_score, 3, (some .int))
theorem moX7_score : am_ok mX7_score 2 := ⟨am_wd (i := 1133) (by decide +kernel) (by decide +kernel), am_wd (i := 83) (by decide +kernel) (by decide +kernel), ⟨by decide +kernel, by decide +kernel, by decide +kernel⟩, by decide +kernel⟩
theorem mfX7_score : am_mV mX7_score 2 := ⟨moX7_score, am_wd (i := 1131) (by decide +kernel) (by decide +kernel), am_wd (i := 1132) (by decide +kernel) (by decide +kernel)⟩
abbrev mX7_scoreNow : am_Mi := (yX7_scoreNow, cX7_scoreNow, 2, (some .int))
theorem moX7_scoreNow : am_ok mX7_scoreNow 1 := ⟨am_wd (i := 1137) (by decide +kernel) (by decide +kernel), am_wd (i := 83) (by decide +kernel) (by decide +kernel), ⟨by decide +kernel, by decide +kernel, by decide +kernel⟩, by decide +kernel⟩
theorem mfX7_scoreNow : am_mV mX7_scoreNow 1 := ⟨moX7_scoreNow, am_wd (i := 1136) (by decide +kernel) (by decide +kernel), am_wd (i := 54) (by decide +kernel) (by decide +kernel)⟩
abbrev mX7_all : am_Mi := (yX7_all, cX7_all, 1, (some .int))
theorem moX7_all : am_ok mX7_all 0 := ⟨am_wd (i := 1141) (by decide +kernel) (by decide +kernel), am_wd (i := 83) (by decide +kernel) (by decide +kernel), ⟨by decide +kernel, by decide +kernel, by decide +kernel⟩, by decide +kernel⟩
theorem mfX7_all : am_mV mX7_all 0 := ⟨moX7_all, am_wd (i := 1140) (by decide +kernel) (by decide +kernel), am_wd (i := 55) (by decide +kernel) (by decide +kernel)⟩
abbrev mX7_scoreOf : am_Mi := (yX7_scoreOf, cX7_scoreOf, 5, (some .int))
theorem moX7_scoreOf : am_ok mX7_scoreOf 2 := ⟨am_wd (i := 1145) (by decide +kernel) (by decide +kernel), am_wd (i := 83) (by decide +kernel) (by decide +kernel), ⟨by decide +kernel, by decide +kernel, by decide +kernel⟩, by decide +kernel⟩
theorem mfX7_scoreOf : am_mV mX7_scoreOf 2 := ⟨moX7_scoreOf, am_wd (i := 1144) (by decide +kernel) (by decide +kernel), am_wd (i := 56) (by decide +kernel) (by decide +kernel)⟩
abbrev mX7_pointsOf : am_Mi := (yX7_pointsOf, cX7_pointsOf, 4, (some .int))
theorem moX7_pointsOf : am_ok mX7_pointsOf 2 := ⟨am_wd (i := 1149) (by decide +kernel) (by decide +kernel), am_wd (i := 83) (by decide +kernel) (by decide +kernel), ⟨by decide +kernel, by decide +kernel, by decide +kernel⟩, by decide +kernel⟩
theorem mfX7_pointsOf : am_mV mX7_pointsOf 2 := ⟨moX7_pointsOf, am_wd (i := 1148) (by decide +kernel) (by decide +kernel), am_wd (i := 57) (by decide +kernel) (by decide +kernel)⟩
abbrev mX7_rightOf : am_Mi := (yX7_rightOf, cX7_rightOf, 4, (some .int))
theorem moX7_rightOf : am_ok mX7_rightOf 1 := ⟨am_wd (i := 1153) (by decide +kernel) (by decide +kernel), am_wd (i := 83) (by decide +kernel) (by decide +kernel), ⟨by decide +kernel, by decide +kernel, by decide +kernel⟩, by decide +kernel⟩
theorem mfX7_rightOf : am_mV mX7_rightOf 1 := ⟨moX7_rightOf, am_wd (i := 1152) (by decide +kernel) (by decide +kernel), am_wd (i := 58) (by decide +kernel) (by decide +kernel)⟩
abbrev mX7_missed : am_Mi := (yX7_missed, cX7_missed, 4, (some .int))
theorem moX7_missed : am_ok mX7_missed 1 := ⟨am_wd (i := 1157) (by decide +kernel) (by decide +kernel), am_wd (i := 83) (by decide +kernel) (by decide +kernel), ⟨by decide +kernel, by decide +kernel, by decide +kernel⟩, by decide +kernel⟩
theorem mfX7_missed : am_mV mX7_missed 1 := ⟨moX7_missed, am_wd (i := 1156) (by decide +kernel) (by decide +kernel), am_wd (i := 59) (by decide +kernel) (by decide +kernel)⟩
abbrev mX7_evening : am_Mi := (yX7_evening, cX7_evening, 2, (some .int))
theorem moX7_evening : am_ok mX7_evening 1 := ⟨am_wd (i := 1161) (by decide +kernel) (by decide +kernel), am_wd (i := 83) (by decide +kernel) (by decide +kernel), ⟨by decide +kernel, by decide +kernel, by decide +kernel⟩, by decide +kernel⟩
theorem mfX7_evening : am_mV mX7_evening 1 := ⟨moX7_evening, am_wd (i := 1159) (by decide +kernel) (by decide +kernel), am_wd (i := 1160) (by decide +kernel) (by decide +kernel)⟩
abbrev mX7_winner : am_Mi := (yX7_winner, cX7_winner, 3, (some .int))
theorem moX7_winner : am_ok mX7_winner 0 := ⟨am_wd (i := 1165) (by decide +kernel) (by decide +kernel), am_wd (i := 83) (by decide +kernel) (by decide +kernel), ⟨by decide +kernel, by decide +kernel, by decide +kernel⟩, by decide +kernel⟩
theorem mfX7_winner : am_mV mX7_winner 0 := ⟨moX7_winner, am_wd (i := 1164) (by decide +kernel) (by decide +kernel), am_wd (i := 60) (by decide +kernel) (by decide +kernel)⟩
abbrev mX7_apart : am_Mi := (yX7_apart, cX7_apart, 6, (some .int))
theorem moX7_apart : am_ok mX7_apart 1 := ⟨am_wd (i := 1169) (by decide +kernel) (by decide +kernel), am_wd (i := 83) (by decide +kernel) (by decide +kernel), ⟨by decide +kernel, by decide +kernel, by decide +kernel⟩, by decide +kernel⟩
theorem mfX7_apart : am_mV mX7_apart 1 := ⟨moX7_apart, am_wd (i := 1168) (by decide +kernel) (by decide +kernel), am_wd (i := 61) (by decide +kernel) (by decide +kernel)⟩
abbrev mX7_best : am_Mi := (yX7_best, cX7_best, 8, (some .int))
theorem moX7_best : am_ok mX7_best 2 := ⟨am_wd (i := 1173) (by decide +kernel) (by decide +kernel), am_wd (i := 83) (by decide +kernel) (by decide +kernel), ⟨by decide +kernel, by decide +kernel, by decide +kernel⟩, by decide +kernel⟩
theorem mfX7_best : am_mV mX7_best 2 := ⟨moX7_best, am_wd (i := 1171) (by decide +kernel) (by decide +kernel), am_wd (i := 1172) (by decide +kernel) (by decide +kernel)⟩
abbrev mX7_join : am_Mi := (yX7_join, cX7_join, 7, (some .int))
theorem moX7_join : am_ok mX7_join 2 := ⟨am_wd (i := 1177) (by decide +kernel) (by decide +kernel), am_wd (i := 83) (by decide +kernel) (by decide +kernel), ⟨by decide +kernel, by decide +kernel, by decide +kernel⟩, by decide +kernel⟩
theorem mfX7_join : am_mV mX7_join 2 := ⟨moX7_join, am_wd (i := 1175) (by decide +kernel) (by decide +kernel), am_wd (i := 1176) (by decide +kernel) (by decide +kernel)⟩
abbrev mX7_scoreWith : am_Mi := (yX7_scoreWith, cX7_scoreWith, 6, (some .int))
theorem moX7_scoreWith : am_ok mX7_scoreWith 3 := ⟨am_wd (i := 1181) (by decide +kernel) (by decide +kernel), am_wd (i := 83) (by decide +kernel) (by decide +kernel), ⟨by decide +kernel, by decide +kernel, by decide +kernel⟩, by decide +kernel⟩
theorem mfX7_scoreWith : am_mV mX7_scoreWith 3 := ⟨moX7_scoreWith, am_wd (i := 1180) (by decide +kernel) (by decide +kernel), am_wd (i := 62) (by decide +kernel) (by decide +kernel)⟩
abbrev mX7_leave : am_Mi := (yX7_leave, cX7_leave, 7, (some .int))
theorem moX7_leave : am_ok mX7_leave 2 := ⟨am_wd (i := 1185) (by decide +kernel) (by decide +kernel), am_wd (i := 83) (by decide +kernel) (by decide +kernel), ⟨by decide +kernel, by decide +kernel, by decide +kernel⟩, by decide +kernel⟩
theorem mfX7_leave : am_mV mX7_leave 2 := ⟨moX7_leave, am_wd (i := 1183) (by decide +kernel) (by decide +kernel), am_wd (i := 1184) (by decide +kernel) (by decide +kernel)⟩
abbrev mX7_cover : am_Mi := (yX7_cover, cX7_cover, 6, (some .int))
theorem moX7_cover : am_ok mX7_cover 1 := ⟨am_wd (i := 1189) (by decide +kernel) (by decide +kernel), am_wd (i := 83) (by decide +kernel) (by decide +kernel), ⟨by decide +kernel, by decide +kernel, by decide +kernel⟩, by decide +kernel⟩
theorem mfX7_cover : am_mV mX7_cover 1 := ⟨moX7_cover, am_wd (i := 1187) (by decide +kernel) (by decide +kernel), am_wd (i := 1188) (by decide +kernel) (by decide +kernel)⟩
abbrev mX7_coveredBy : am_Mi := (yX7_coveredBy, cX7_coveredBy, 5, (some .int))
theorem moX7_coveredBy : am_ok mX7_coveredBy 1 := ⟨am_wd (i := 1193) (by decide +kernel) (by decide +kernel), am_wd (i := 83) (by decide +kernel) (by decide +kernel), ⟨by decide +kernel, by decide +kernel, by decide +kernel⟩, by decide +kernel⟩
theorem mfX7_coveredBy : am_mV mX7_coveredBy 1 := ⟨moX7_coveredBy, am_wd (i := 1192) (by decide +kernel) (by decide +kernel), am_wd (i := 63) (by decide +kernel) (by decide +kernel)⟩
abbrev mX7_ones : am_Mi := (yX7_ones, cX7_ones, 3, (some .int))
theorem moX7_ones : am_ok mX7_ones 1 := ⟨am_wd (i := 1196) (by decide +kernel) (by decide +kernel), am_wd (i := 83) (by decide +kernel) (by decide +kernel), ⟨by decide +kernel, by decide +kernel, by decide +kernel⟩, by decide +kernel⟩
theorem mfX7_ones : am_mS mX7_ones 1 := ⟨moX7_ones, am_wd (i := 1195) (by decide +kernel) (by decide +kernel)⟩
abbrev mX7_hire : am_Mi := (yX7_hire, cX7_hire, 11, (some .int))
theorem moX7_hire : am_ok mX7_hire 3 := ⟨am_wd (i := 1200) (by decide +kernel) (by decide +kernel), am_wd (i := 83) (by decide +kernel) (by decide +kernel), ⟨by decide +kernel, by decide +kernel, by decide +kernel⟩, by decide +kernel⟩
theorem mfX7_hire : am_mV mX7_hire 3 := ⟨moX7_hire, am_wd (i := 1198) (by decide +kernel) (by decide +kernel), am_wd (i := 1199) (by decide +kernel) (by decide +kernel)⟩
abbrev mX7_priceOf : am_Mi := (yX7_priceOf, cX7_priceOf, 4, (some .int))
theorem moX7_priceOf : am_ok mX7_priceOf 1 := ⟨am_wd (i := 1204) (by decide +kernel) (by decide +kernel), am_wd (i := 83) (by decide +kernel) (by decide +kernel), ⟨by decide +kernel, by decide +kernel, by decide +kernel⟩, by decide +kernel⟩
theorem mfX7_priceOf : am_mV mX7_priceOf 1 := ⟨moX7_priceOf, am_wd (i := 1203) (by decide +kernel) (by decide +kernel), am_wd (i := 64) (by decide +kernel) (by decide +kernel)⟩
abbrev mX7_price : am_Mi := (yX7_price, cX7_price, 2, (some .int))
theorem moX7_price : am_ok mX7_price 1 := ⟨am_wd (i := 1208) (by decide +kernel) (by decide +kernel), am_wd (i := 83) (by decide +kernel) (by decide +kernel), ⟨by decide +kernel, by decide +kernel, by decide +kernel⟩, by decide +kernel⟩
theorem mfX7_price : am_mV mX7_price 1 := ⟨moX7_price, am_wd (i := 1206) (by decide +kernel) (by decide +kernel), am_wd (i := 1207) (by decide +kernel) (by decide +kernel)⟩
abbrev mX7_close : am_Mi := (yX7_close, cX7_close, 8, (some .int))
theorem moX7_close : am_ok mX7_close 2 := ⟨am_wd (i := 1212) (by decide +kernel) (by decide +kernel), am_wd (i := 83) (by decide +kernel) (by decide +kernel), ⟨by decide +kernel, by decide +kernel, by decide +kernel⟩, by decide +kernel⟩
theorem mfX7_close : am_mV mX7_close 2 := ⟨moX7_close, am_wd (i := 1210) (by decide +kernel) (by decide +kernel), am_wd (i := 1211) (by decide +kernel) (by decide +kernel)⟩
abbrev mX7_good : am_Mi := (yX7_good, cX7_good, 6, (some .int))
theorem moX7_good : am_ok mX7_good 1 := ⟨am_wd (i := 1216) (by decide +kernel) (by decide +kernel), am_wd (i := 83) (by decide +kernel) (by decide +kernel), ⟨by decide +kernel, by decide +kernel, by decide +kernel⟩, by decide +kernel⟩
theorem mfX7_good : am_mV mX7_good 1 := ⟨moX7_good, am_wd (i := 1214) (by decide +kernel) (by decide +kernel), am_wd (i := 1215) (by decide +kernel) (by decide +kernel)⟩
abbrev mX7_alike : am_Mi := (yX7_alike, cX7_alike, 6, (some .long))
theorem moX7_alike : am_ok mX7_alike 3 := ⟨am_wd (i := 1221) (by decide +kernel) (by decide +kernel), am_wd (i := 83) (by decide +kernel) (by decide +kernel), ⟨by decide +kernel, by decide +kernel, by decide +kernel⟩, by decide +kernel⟩
theorem mfX7_alike : am_mV mX7_alike 3 := ⟨moX7_alike, am_wd (i := 1219) (by decide +kernel) (by decide +kernel), am_wd (i := 1220) (by decide +kernel) (by decide +kernel)⟩
abbrev mX7_lowest : am_Mi := (yX7_lowest, cX7_lowest, 11, (some .long))
theorem moX7_lowest : am_ok mX7_lowest 3 := ⟨am_wd (i := 1225) (by decide +kernel) (by decide +kernel), am_wd (i := 83) (by decide +kernel) (by decide +kernel), ⟨by decide +kernel, by decide +kernel, by decide +kernel⟩, by decide +kernel⟩
theorem mfX7_lowest : am_mS mX7_lowest 3 := ⟨moX7_lowest, am_wd (i := 1224) (by decide +kernel) (by decide +kernel)⟩
abbrev mX7_change : am_Mi := (yX7_change, cX7_change, 7, (some .int))
theorem moX7_change : am_ok mX7_change 1 := ⟨am_wd (i := 1229) (by decide +kernel) (by decide +kernel), am_wd (i := 83) (by decide +kernel) (by decide +kernel), ⟨by decide +kernel, by decide +kernel, by decide +kernel⟩, by decide +kernel⟩
theorem mfX7_change : am_mV mX7_change 1 := ⟨moX7_change, am_wd (i := 1227) (by decide +kernel) (by decide +kernel), am_wd (i := 1228) (by decide +kernel) (by decide +kernel)⟩
abbrev mX7_apartChanged : am_Mi := (yX7_apartChanged, cX7_apartChanged, 5, (some .int))
theorem moX7_apartChanged : am_ok mX7_apartChanged 2 := ⟨am_wd (i := 1233) (by decide +kernel) (by decide +kernel), am_wd (i := 83) (by decide +kernel) (by decide +kernel), ⟨by decide +kernel, by decide +kernel, by decide +kernel⟩, by decide +kernel⟩
theorem mfX7_apartChanged : am_mV mX7_apartChanged 2 := ⟨moX7_apartChanged, am_wd (i := 1232) (by decide +kernel) (by decide +kernel), am_wd (i := 65) (by decide +kernel) (by decide +kernel)⟩
abbrev mX7_judge : am_Mi := (yX7_judge, cX7_judge, 4, (some .int))
theorem moX7_judge : am_ok mX7_judge 2 := ⟨am_wd (i := 1237) (by decide +kernel) (by decide +kernel), am_wd (i := 83) (by decide +kernel) (by decide +kernel), ⟨by decide +kernel, by decide +kernel, by decide +kernel⟩, by decide +kernel⟩
theorem mfX7_judge : am_mV mX7_judge 2 := ⟨moX7_judge, am_wd (i := 1235) (by decide +kernel) (by decide +kernel), am_wd (i := 1236) (by decide +kernel) (by decide +kernel)⟩
abbrev mX7_sheetWrong : am_Mi := (yX7_sheetWrong, cX7_sheetWrong, 2, (some .int))
theorem moX7_sheetWrong : am_ok mX7_sheetWrong 1 := ⟨am_wd (i := 1241) (by decide +kernel) (by decide +kernel), am_wd (i := 83) (by decide +kernel) (by decide +kernel), ⟨by decide +kernel, by decide +kernel, by decide +kernel⟩, by decide +kernel⟩
theorem mfX7_sheetWrong : am_mV mX7_sheetWrong 1 := ⟨moX7_sheetWrong, am_wd (i := 1240) (by decide +kernel) (by decide +kernel), am_wd (i := 66) (by decide +kernel) (by decide +kernel)⟩
abbrev mX7_unlike : am_Mi := (yX7_unlike, cX7_unlike, 4, (some .int))
theorem moX7_unlike : am_ok mX7_unlike 2 := ⟨am_wd (i := 1245) (by decide +kernel) (by decide +kernel), am_wd (i := 83) (by decide +kernel) (by decide +kernel), ⟨by decide +kernel, by decide +kernel, by decide +kernel⟩, by decide +kernel⟩
theorem mfX7_unlike : am_mV mX7_unlike 2 := ⟨moX7_unlike, am_wd (i := 1244) (by decide +kernel) (by decide +kernel), am_wd (i := 67) (by decide +kernel) (by decide +kernel)⟩
abbrev mX7_whose : am_Mi := (yX7_whose, cX7_whose, 5, (some .int))
theorem moX7_whose : am_ok mX7_whose 1 := ⟨am_wd (i := 1249) (by decide +kernel) (by decide +kernel), am_wd (i := 83) (by decide +kernel) (by decide +kernel), ⟨by decide +kernel, by decide +kernel, by decide +kernel⟩, by decide +kernel⟩
theorem mfX7_whose : am_mV mX7_whose 1 := ⟨moX7_whose, am_wd (i := 1247) (by decide +kernel) (by decide +kernel), am_wd (i := 1248) (by decide +kernel) (by decide +kernel)⟩
abbrev mX7_depth : am_Mi := (yX7_depth, cX7_depth, 8, (some .int))
theorem moX7_depth : am_ok mX7_depth 3 := ⟨am_wd (i := 1253) (by decide +kernel) (by decide +kernel), am_wd (i := 83) (by decide +kernel) (by decide +kernel), ⟨by decide +kernel, by decide +kernel, by decide +kernel⟩, by decide +kernel⟩
theorem mfX7_depth : am_mV mX7_depth 3 := ⟨moX7_depth, am_wd (i := 1251) (by decide +kernel) (by decide +kernel), am_wd (i := 1252) (by decide +kernel) (by decide +kernel)⟩
abbrev mX7_laws : am_Mi := (yX7_laws, cX7_laws, 7, (some .int))
theorem moX7_laws : am_ok mX7_laws 2 := ⟨am_wd (i := 1257) (by decide +kernel) (by decide +kernel), am_wd (i := 83) (by decide +kernel) (by decide +kernel), ⟨by decide +kernel, by decide +kernel, by decide +kernel⟩, by decide +kernel⟩
theorem mfX7_laws : am_mV mX7_laws 2 := ⟨moX7_laws, am_wd (i := 1255) (by decide +kernel) (by decide +kernel), am_wd (i := 1256) (by decide +kernel) (by decide +kernel)⟩
abbrev mX7_film : am_Mi := (yX7_film, cX7_film, 4, (some .int))
theorem moX7_film : am_ok mX7_film 2 := ⟨am_wd (i := 1261) (by decide +kernel) (by decide +kernel), am_wd (i := 83) (by decide +kernel) (by decide +kernel), ⟨by decide +kernel, by decide +kernel, by decide +kernel⟩, by decide +kernel⟩
theorem mfX7_film : am_mV mX7_film 2 := ⟨moX7_film, am_wd (i := 1259) (by decide +kernel) (by decide +kernel), am_wd (i := 1260) (by decide +kernel) (by decide +kernel)⟩
abbrev mX7_drawn : am_Mi := (yX7_drawn, cX7_drawn, 2, (some .int))
theorem moX7_drawn : am_ok mX7_drawn 1 := ⟨am_wd (i := 1265) (by decide +kernel) (by decide +kernel), am_wd (i := 83) (by decide +kernel) (by decide +kernel), ⟨by decide +kernel, by decide +kernel, by decide +kernel⟩, by decide +kernel⟩
theorem mfX7_drawn : am_mV mX7_drawn 1 := ⟨moX7_drawn, am_wd (i := 1263) (by decide +kernel) (by decide +kernel), am_wd (i := 1264) (by decide +kernel) (by decide +kernel)⟩
abbrev mX7_winnerBy : am_Mi := (yX7_winnerBy, cX7_winnerBy, 6, (some .int))
theorem moX7_winnerBy : am_ok mX7_winnerBy 1 := ⟨am_wd (i := 1270) (by decide +kernel) (by decide +kernel), am_wd (i := 83) (by decide +kernel) (by decide +kernel), ⟨by decide +kernel, by decide +kernel, by decide +kernel⟩, by decide +kernel⟩
theorem mfX7_winnerBy : am_mV mX7_winnerBy 1 := ⟨moX7_winnerBy, am_wd (i := 1269) (by decide +kernel) (by decide +kernel), am_wd (i := 68) (by decide +kernel) (by decide +kernel)⟩
abbrev mX7_odds : am_Mi := (yX7_odds, cX7_odds, 8, (some .long))
theorem moX7_odds : am_ok mX7_odds 4 := ⟨am_wd (i := 1277) (by decide +kernel) (by decide +kernel), am_wd (i := 83) (by decide +kernel) (by decide +kernel), ⟨by decide +kernel, by decide +kernel, by decide +kernel⟩, by decide +kernel⟩
theorem mfX7_odds : am_mV mX7_odds 4 := ⟨moX7_odds, am_wd (i := 1275) (by decide +kernel) (by decide +kernel), am_wd (i := 1276) (by decide +kernel) (by decide +kernel)⟩
abbrev mX7_image : am_Mi := (yX7_image, cX7_image, 2, (some .int))
theorem moX7_image : am_ok mX7_image 0 := ⟨am_wd (i := 1281) (by decide +kernel) (by decide +kernel), am_wd (i := 83) (by decide +kernel) (by decide +kernel), ⟨by decide +kernel, by decide +kernel, by decide +kernel⟩, by decide +kernel⟩
theorem mfX7_image : am_mV mX7_image 0 := ⟨moX7_image, am_wd (i := 1279) (by decide +kernel) (by decide +kernel), am_wd (i := 1280) (by decide +kernel) (by decide +kernel)⟩
abbrev mX7_back : am_Mi := (yX7_back, cX7_back, 2, (some .int))
theorem moX7_back : am_ok mX7_back 0 := ⟨am_wd (i := 1285) (by decide +kernel) (by decide +kernel), am_wd (i := 83) (by decide +kernel) (by decide +kernel), ⟨by decide +kernel, by decide +kernel, by decide +kernel⟩, by decide +kernel⟩
theorem mfX7_back : am_mV mX7_back 0 := ⟨moX7_back, am_wd (i := 1283) (by decide +kernel) (by decide +kernel), am_wd (i := 1284) (by decide +kernel) (by decide +kernel)⟩
abbrev mX7_sheet : am_Mi := (yX7_sheet, cX7_sheet, 5, (some .int))
theorem moX7_sheet : am_ok mX7_sheet 3 := ⟨am_wd (i := 1289) (by decide +kernel) (by decide +kernel), am_wd (i := 83) (by decide +kernel) (by decide +kernel), ⟨by decide +kernel, by decide +kernel, by decide +kernel⟩, by decide +kernel⟩
theorem mfX7_sheet : am_mV mX7_sheet 3 := ⟨moX7_sheet, am_wd (i := 1287) (by decide +kernel) (by decide +kernel), am_wd (i := 1288) (by decide +kernel) (by decide +kernel)⟩
abbrev mX7_cell : am_Mi := (yX7_cell, cX7_cell, 4, (some .int))
theorem moX7_cell : am_ok mX7_cell 3 := ⟨am_wd (i := 1293) (by decide +kernel) (by decide +kernel), am_wd (i := 83) (by decide +kernel) (by decide +kernel), ⟨by decide +kernel, by decide +kernel, by decide +kernel⟩, by decide +kernel⟩
theorem mfX7_cell : am_mV mX7_cell 3 := ⟨moX7_cell, am_wd (i := 1291) (by decide +kernel) (by decide +kernel), am_wd (i := 1292) (by decide +kernel) (by decide +kernel)⟩
abbrev mX7_copy : am_Mi := (yX7_copy, cX7_copy, 10, (some .int))
theorem moX7_copy : am_ok mX7_copy 5 := ⟨am_wd (i := 1297) (by decide +kernel) (by decide +kernel), am_wd (i := 83) (by decide +kernel) (by decide +kernel), ⟨by decide +kernel, by decide +kernel, by decide +kernel⟩, by decide +kernel⟩
theorem mfX7_copy : am_mV mX7_copy 5 := ⟨moX7_copy, am_wd (i := 1295) (by decide +kernel) (by decide +kernel), am_wd (i := 1296) (by decide +kernel) (by decide +kernel)⟩
abbrev mX7_depthsBy : am_Mi := (yX7_depthsBy, cX7_depthsBy, 9, (some .int))
theorem moX7_depthsBy : am_ok mX7_depthsBy 4 := ⟨am_wd (i := 1301) (by decide +kernel) (by decide +kernel), am_wd (i := 83) (by decide +kernel) (by decide +kernel), ⟨by decide +kernel, by decide +kernel, by decide +kernel⟩, by decide +kernel⟩
theorem mfX7_depthsBy : am_mV mX7_depthsBy 4 := ⟨moX7_depthsBy, am_wd (i := 1299) (by decide +kernel) (by decide +kernel), am_wd (i := 1300) (by decide +kernel) (by decide +kernel)⟩
abbrev mX7_taken : am_Mi := (yX7_taken, cX7_taken, 3, (some .int))
theorem moX7_taken : am_ok mX7_taken 2 := ⟨am_wd (i := 1306) (by decide +kernel) (by decide +kernel), am_wd (i := 83) (by decide +kernel) (by decide +kernel), ⟨by decide +kernel, by decide +kernel, by decide +kernel⟩, by decide +kernel⟩
theorem mfX7_taken : am_mV mX7_taken 2 := ⟨moX7_taken, am_wd (i := 1304) (by decide +kernel) (by decide +kernel), am_wd (i := 1305) (by decide +kernel) (by decide +kernel)⟩
abbrev mX7_isUnder : am_Mi := (yX7_isUnder, cX7_isUnder, 2, (some .boolean))
theorem moX7_isUnder : am_ok mX7_isUnder 2 := ⟨am_wd (i := 1309) (by decide +kernel) (by decide +kernel), am_wd (i := 83) (by decide +kernel) (by decide +kernel), ⟨by decide +kernel, by decide +kernel, by decide +kernel⟩, by decide +kernel⟩
theorem mfX7_isUnder : am_mS mX7_isUnder 2 := ⟨moX7_isUnder, am_wd (i := 1308) (by decide +kernel) (by decide +kernel)⟩
