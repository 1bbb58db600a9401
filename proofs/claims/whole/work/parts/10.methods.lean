/-! methods: names, codes (written by program) -/
def k_As_init : mm_K := (⟨"GodWeathers$Asking", "<init>", "()V"⟩, prog_2_method_1_code, 1, none)
theorem ok_As_init : mm_ok k_As_init 0 := ⟨mm_in (mm_m2 (List.mem_of_getElem? (i := 49) rfl)) rfl, mm_in (mm_m1 (List.mem_of_getElem? (i := 8) rfl)) rfl, by decide +kernel, ⟨by decide +kernel, by decide +kernel⟩, Nat.le_of_ble_eq_true rfl, by decide +kernel⟩
def k_As_begin : mm_K := (⟨"GodWeathers$Asking", "begin", "(LGodWeathers$Coast;Z)V"⟩, prog_2_method_2_code, 5, none)
theorem ok_As_begin : mm_ok k_As_begin 2 := ⟨mm_in (mm_m4 (List.mem_of_getElem? (i := 30) rfl)) rfl, mm_in (mm_m1 (List.mem_of_getElem? (i := 8) rfl)) rfl, by decide +kernel, ⟨by decide +kernel, by decide +kernel⟩, Nat.le_of_ble_eq_true rfl, by decide +kernel⟩
def k_As_most : mm_K := (⟨"GodWeathers$Asking", "most", "(I)I"⟩, prog_2_method_3_code, 2, some .int)
theorem ok_As_most : mm_ok k_As_most 1 := ⟨mm_in (mm_m4 (List.mem_of_getElem? (i := 44) rfl)) rfl, mm_in (mm_m1 (List.mem_of_getElem? (i := 8) rfl)) rfl, by decide +kernel, ⟨by decide +kernel, by decide +kernel⟩, Nat.le_of_ble_eq_true rfl, by decide +kernel⟩
def k_As_walk : mm_K := (⟨"GodWeathers$Asking", "walk", "(II)V"⟩, prog_2_method_4_code, 5, none)
theorem ok_As_walk : mm_ok k_As_walk 2 := ⟨mm_in (mm_m4 (List.mem_of_getElem? (i := 48) rfl)) rfl, mm_in (mm_m1 (List.mem_of_getElem? (i := 8) rfl)) rfl, by decide +kernel, ⟨by decide +kernel, by decide +kernel⟩, Nat.le_of_ble_eq_true rfl, by decide +kernel⟩
def k_As_arrive : mm_K := (⟨"GodWeathers$Asking", "arrive", "(I)V"⟩, prog_2_method_5_code, 2, none)
theorem ok_As_arrive : mm_ok k_As_arrive 1 := ⟨mm_in (mm_m4 (List.mem_of_getElem? (i := 52) rfl)) rfl, mm_in (mm_m1 (List.mem_of_getElem? (i := 8) rfl)) rfl, by decide +kernel, ⟨by decide +kernel, by decide +kernel⟩, Nat.le_of_ble_eq_true rfl, by decide +kernel⟩
def k_As_setsOfOneDay : mm_K := (⟨"GodWeathers$Asking", "setsOfOneDay", "(LGodWeathers$Coast;)J"⟩, prog_2_method_6_code, 5, some .long)
theorem ok_As_setsOfOneDay : mm_ok k_As_setsOfOneDay 1 := ⟨mm_in (mm_m5 (List.mem_of_getElem? (i := 74) rfl)) rfl, mm_in (mm_m1 (List.mem_of_getElem? (i := 8) rfl)) rfl, by decide +kernel, ⟨by decide +kernel, by decide +kernel⟩, Nat.le_of_ble_eq_true rfl, by decide +kernel⟩
def k_As_luckyRows : mm_K := (⟨"GodWeathers$Asking", "luckyRows", "(LGodWeathers$Coast;I)I"⟩, prog_2_method_7_code, 2, some .int)
theorem ok_As_luckyRows : mm_ok k_As_luckyRows 2 := ⟨mm_in (mm_m5 (List.mem_of_getElem? (i := 59) rfl)) rfl, mm_in (mm_m1 (List.mem_of_getElem? (i := 8) rfl)) rfl, by decide +kernel, ⟨by decide +kernel, by decide +kernel⟩, Nat.le_of_ble_eq_true rfl, by decide +kernel⟩
def k_As_luckyRowsFrom : mm_K := (⟨"GodWeathers$Asking", "luckyRowsFrom", "(LGodWeathers$Coast;III)I"⟩, prog_2_method_8_code, 6, some .int)
theorem ok_As_luckyRowsFrom : mm_ok k_As_luckyRowsFrom 4 := ⟨mm_in (mm_m5 (List.mem_of_getElem? (i := 62) rfl)) rfl, mm_in (mm_m1 (List.mem_of_getElem? (i := 8) rfl)) rfl, by decide +kernel, ⟨by decide +kernel, by decide +kernel⟩, Nat.le_of_ble_eq_true rfl, by decide +kernel⟩
def k_As_assign : mm_K := (⟨"GodWeathers$Asking", "assign", "(LGodWeathers$Coast;I)Z"⟩, prog_2_method_9_code, 3, some .boolean)
theorem ok_As_assign : mm_ok k_As_assign 2 := ⟨mm_in (mm_m4 (List.mem_of_getElem? (i := 7) rfl)) rfl, mm_in (mm_m1 (List.mem_of_getElem? (i := 8) rfl)) rfl, by decide +kernel, ⟨by decide +kernel, by decide +kernel⟩, Nat.le_of_ble_eq_true rfl, by decide +kernel⟩
def k_As_assignFrom : mm_K := (⟨"GodWeathers$Asking", "assignFrom", "(III)Z"⟩, prog_2_method_10_code, 6, some .boolean)
theorem ok_As_assignFrom : mm_ok k_As_assignFrom 3 := ⟨mm_in (mm_m4 (List.mem_of_getElem? (i := 11) rfl)) rfl, mm_in (mm_m1 (List.mem_of_getElem? (i := 8) rfl)) rfl, by decide +kernel, ⟨by decide +kernel, by decide +kernel⟩, Nat.le_of_ble_eq_true rfl, by decide +kernel⟩
def k_As_outcome : mm_K := (⟨"GodWeathers$Asking", "outcome", "(LGodWeathers$Coast;I)I"⟩, prog_2_method_11_code, 3, some .int)
theorem ok_As_outcome : mm_ok k_As_outcome 2 := ⟨mm_in (mm_m4 (List.mem_of_getElem? (i := 113) rfl)) rfl, mm_in (mm_m1 (List.mem_of_getElem? (i := 8) rfl)) rfl, by decide +kernel, ⟨by decide +kernel, by decide +kernel⟩, Nat.le_of_ble_eq_true rfl, by decide +kernel⟩
def k_As_opening : mm_K := (⟨"GodWeathers$Asking", "opening", "(LGodWeathers$Coast;I)I"⟩, prog_2_method_12_code, 6, some .int)
theorem ok_As_opening : mm_ok k_As_opening 2 := ⟨mm_in (mm_m4 (List.mem_of_getElem? (i := 109) rfl)) rfl, mm_in (mm_m1 (List.mem_of_getElem? (i := 8) rfl)) rfl, by decide +kernel, ⟨by decide +kernel, by decide +kernel⟩, Nat.le_of_ble_eq_true rfl, by decide +kernel⟩
def k_As_playOn : mm_K := (⟨"GodWeathers$Asking", "playOn", "(IIIZ)I"⟩, prog_2_method_13_code, 9, some .int)
theorem ok_As_playOn : mm_ok k_As_playOn 4 := ⟨mm_in (mm_m4 (List.mem_of_getElem? (i := 118) rfl)) rfl, mm_in (mm_m1 (List.mem_of_getElem? (i := 8) rfl)) rfl, by decide +kernel, ⟨by decide +kernel, by decide +kernel⟩, Nat.le_of_ble_eq_true rfl, by decide +kernel⟩
def k_Bo_init : mm_K := (⟨"GodWeathers$Boats", "<init>", "()V"⟩, prog_3_method_1_code, 1, none)
theorem ok_Bo_init : mm_ok k_Bo_init 0 := ⟨mm_in (mm_m2 (List.mem_of_getElem? (i := 85) rfl)) rfl, mm_in (mm_m1 (List.mem_of_getElem? (i := 9) rfl)) rfl, by decide +kernel, ⟨by decide +kernel, by decide +kernel⟩, Nat.le_of_ble_eq_true rfl, by decide +kernel⟩
def k_Bo_fewest : mm_K := (⟨"GodWeathers$Boats", "fewest", "(LGodWeathers$Coast;I)I"⟩, prog_3_method_2_code, 4, some .int)
theorem ok_Bo_fewest : mm_ok k_Bo_fewest 2 := ⟨mm_in (mm_m4 (List.mem_of_getElem? (i := 95) rfl)) rfl, mm_in (mm_m1 (List.mem_of_getElem? (i := 9) rfl)) rfl, by decide +kernel, ⟨by decide +kernel, by decide +kernel⟩, Nat.le_of_ble_eq_true rfl, by decide +kernel⟩
def k_Bo_board : mm_K := (⟨"GodWeathers$Boats", "board", "(III)Z"⟩, prog_3_method_3_code, 6, some .boolean)
theorem ok_Bo_board : mm_ok k_Bo_board 3 := ⟨mm_in (mm_m4 (List.mem_of_getElem? (i := 100) rfl)) rfl, mm_in (mm_m1 (List.mem_of_getElem? (i := 9) rfl)) rfl, by decide +kernel, ⟨by decide +kernel, by decide +kernel⟩, Nat.le_of_ble_eq_true rfl, by decide +kernel⟩
def k_Co_init : mm_K := (⟨"GodWeathers$Coast", "<init>", "()V"⟩, prog_4_method_1_code, 1, none)
theorem ok_Co_init : mm_ok k_Co_init 0 := ⟨mm_in (mm_m1 (List.mem_of_getElem? (i := 40) rfl)) rfl, mm_in (mm_m1 (List.mem_of_getElem? (i := 3) rfl)) rfl, by decide +kernel, ⟨by decide +kernel, by decide +kernel⟩, Nat.le_of_ble_eq_true rfl, by decide +kernel⟩
def k_Co_clear : mm_K := (⟨"GodWeathers$Coast", "clear", "()V"⟩, prog_4_method_2_code, 1, none)
theorem ok_Co_clear : mm_ok k_Co_clear 0 := ⟨mm_in (mm_m2 (List.mem_of_getElem? (i := 186) rfl)) rfl, mm_in (mm_m1 (List.mem_of_getElem? (i := 3) rfl)) rfl, by decide +kernel, ⟨by decide +kernel, by decide +kernel⟩, Nat.le_of_ble_eq_true rfl, by decide +kernel⟩
def k_Co_copyFrom : mm_K := (⟨"GodWeathers$Coast", "copyFrom", "(LGodWeathers$Coast;)V"⟩, prog_4_method_3_code, 2, none)
theorem ok_Co_copyFrom : mm_ok k_Co_copyFrom 1 := ⟨mm_in (mm_m3 (List.mem_of_getElem? (i := 102) rfl)) rfl, mm_in (mm_m1 (List.mem_of_getElem? (i := 3) rfl)) rfl, by decide +kernel, ⟨by decide +kernel, by decide +kernel⟩, Nat.le_of_ble_eq_true rfl, by decide +kernel⟩
def k_Co_look : mm_K := (⟨"GodWeathers$Coast", "look", "(I)I"⟩, prog_4_method_4_code, 3, some .int)
theorem ok_Co_look : mm_ok k_Co_look 1 := ⟨mm_in (mm_m3 (List.mem_of_getElem? (i := 134) rfl)) rfl, mm_in (mm_m1 (List.mem_of_getElem? (i := 3) rfl)) rfl, by decide +kernel, ⟨by decide +kernel, by decide +kernel⟩, Nat.le_of_ble_eq_true rfl, by decide +kernel⟩
def k_Co_hasChild : mm_K := (⟨"GodWeathers$Coast", "hasChild", "(I)Z"⟩, prog_4_method_5_code, 2, some .boolean)
theorem ok_Co_hasChild : mm_ok k_Co_hasChild 1 := ⟨mm_in (mm_m3 (List.mem_of_getElem? (i := 141) rfl)) rfl, mm_in (mm_m1 (List.mem_of_getElem? (i := 3) rfl)) rfl, by decide +kernel, ⟨by decide +kernel, by decide +kernel⟩, Nat.le_of_ble_eq_true rfl, by decide +kernel⟩
def k_Co_hasWork : mm_K := (⟨"GodWeathers$Coast", "hasWork", "(I)Z"⟩, prog_4_method_6_code, 2, some .boolean)
theorem ok_Co_hasWork : mm_ok k_Co_hasWork 1 := ⟨mm_in (mm_m3 (List.mem_of_getElem? (i := 145) rfl)) rfl, mm_in (mm_m1 (List.mem_of_getElem? (i := 3) rfl)) rfl, by decide +kernel, ⟨by decide +kernel, by decide +kernel⟩, Nat.le_of_ble_eq_true rfl, by decide +kernel⟩
def k_Co_allChildren : mm_K := (⟨"GodWeathers$Coast", "allChildren", "()I"⟩, prog_4_method_7_code, 1, some .int)
theorem ok_Co_allChildren : mm_ok k_Co_allChildren 0 := ⟨mm_in (mm_m4 (List.mem_of_getElem? (i := 40) rfl)) rfl, mm_in (mm_m1 (List.mem_of_getElem? (i := 3) rfl)) rfl, by decide +kernel, ⟨by decide +kernel, by decide +kernel⟩, Nat.le_of_ble_eq_true rfl, by decide +kernel⟩
def k_Co_allWorks : mm_K := (⟨"GodWeathers$Coast", "allWorks", "()I"⟩, prog_4_method_8_code, 1, some .int)
theorem ok_Co_allWorks : mm_ok k_Co_allWorks 0 := ⟨mm_in (mm_m3 (List.mem_of_getElem? (i := 94) rfl)) rfl, mm_in (mm_m1 (List.mem_of_getElem? (i := 3) rfl)) rfl, by decide +kernel, ⟨by decide +kernel, by decide +kernel⟩, Nat.le_of_ble_eq_true rfl, by decide +kernel⟩
def k_Co_isGodparent : mm_K := (⟨"GodWeathers$Coast", "isGodparent", "(II)Z"⟩, prog_4_method_9_code, 3, some .boolean)
theorem ok_Co_isGodparent : mm_ok k_Co_isGodparent 2 := ⟨mm_in (mm_m3 (List.mem_of_getElem? (i := 183) rfl)) rfl, mm_in (mm_m1 (List.mem_of_getElem? (i := 3) rfl)) rfl, by decide +kernel, ⟨by decide +kernel, by decide +kernel⟩, Nat.le_of_ble_eq_true rfl, by decide +kernel⟩
def k_Co_hereOnceComes : mm_K := (⟨"GodWeathers$Coast", "hereOnceComes", "(II)I"⟩, prog_4_method_10_code, 3, some .int)
theorem ok_Co_hereOnceComes : mm_ok k_Co_hereOnceComes 2 := ⟨mm_in (mm_m3 (List.mem_of_getElem? (i := 191) rfl)) rfl, mm_in (mm_m1 (List.mem_of_getElem? (i := 3) rfl)) rfl, by decide +kernel, ⟨by decide +kernel, by decide +kernel⟩, Nat.le_of_ble_eq_true rfl, by decide +kernel⟩
def k_Co_worksWith : mm_K := (⟨"GodWeathers$Coast", "worksWith", "(I)I"⟩, prog_4_method_11_code, 4, some .int)
theorem ok_Co_worksWith : mm_ok k_Co_worksWith 1 := ⟨mm_in (mm_m4 (List.mem_of_getElem? (i := 34) rfl)) rfl, mm_in (mm_m1 (List.mem_of_getElem? (i := 3) rfl)) rfl, by decide +kernel, ⟨by decide +kernel, by decide +kernel⟩, Nat.le_of_ble_eq_true rfl, by decide +kernel⟩
def k_Co_worthOf : mm_K := (⟨"GodWeathers$Coast", "worthOf", "(I)I"⟩, prog_4_method_12_code, 4, some .int)
theorem ok_Co_worthOf : mm_ok k_Co_worthOf 1 := ⟨mm_in (mm_m3 (List.mem_of_getElem? (i := 227) rfl)) rfl, mm_in (mm_m1 (List.mem_of_getElem? (i := 3) rfl)) rfl, by decide +kernel, ⟨by decide +kernel, by decide +kernel⟩, Nat.le_of_ble_eq_true rfl, by decide +kernel⟩
def k_Co_chances : mm_K := (⟨"GodWeathers$Coast", "chances", "(I)J"⟩, prog_4_method_13_code, 5, some .long)
theorem ok_Co_chances : mm_ok k_Co_chances 1 := ⟨mm_in (mm_m4 (List.mem_of_getElem? (i := 66) rfl)) rfl, mm_in (mm_m1 (List.mem_of_getElem? (i := 3) rfl)) rfl, by decide +kernel, ⟨by decide +kernel, by decide +kernel⟩, Nat.le_of_ble_eq_true rfl, by decide +kernel⟩
def k_Co_chancesUnder : mm_K := (⟨"GodWeathers$Coast", "chancesUnder", "(I)J"⟩, prog_4_method_14_code, 5, some .long)
theorem ok_Co_chancesUnder : mm_ok k_Co_chancesUnder 1 := ⟨mm_in (mm_m4 (List.mem_of_getElem? (i := 70) rfl)) rfl, mm_in (mm_m1 (List.mem_of_getElem? (i := 3) rfl)) rfl, by decide +kernel, ⟨by decide +kernel, by decide +kernel⟩, Nat.le_of_ble_eq_true rfl, by decide +kernel⟩
def k_Co_dearest : mm_K := (⟨"GodWeathers$Coast", "dearest", "()I"⟩, prog_4_method_15_code, 3, some .int)
theorem ok_Co_dearest : mm_ok k_Co_dearest 0 := ⟨mm_in (mm_m5 (List.mem_of_getElem? (i := 9) rfl)) rfl, mm_in (mm_m1 (List.mem_of_getElem? (i := 3) rfl)) rfl, by decide +kernel, ⟨by decide +kernel, by decide +kernel⟩, Nat.le_of_ble_eq_true rfl, by decide +kernel⟩
def k_Co_dearestApart : mm_K := (⟨"GodWeathers$Coast", "dearestApart", "(I)I"⟩, prog_4_method_16_code, 4, some .int)
theorem ok_Co_dearestApart : mm_ok k_Co_dearestApart 1 := ⟨mm_in (mm_m5 (List.mem_of_getElem? (i := 94) rfl)) rfl, mm_in (mm_m1 (List.mem_of_getElem? (i := 3) rfl)) rfl, by decide +kernel, ⟨by decide +kernel, by decide +kernel⟩, Nat.le_of_ble_eq_true rfl, by decide +kernel⟩
def k_Co_needApart : mm_K := (⟨"GodWeathers$Coast", "needApart", "(I)Z"⟩, prog_4_method_17_code, 4, some .boolean)
theorem ok_Co_needApart : mm_ok k_Co_needApart 1 := ⟨mm_in (mm_m5 (List.mem_of_getElem? (i := 100) rfl)) rfl, mm_in (mm_m1 (List.mem_of_getElem? (i := 3) rfl)) rfl, by decide +kernel, ⟨by decide +kernel, by decide +kernel⟩, Nat.le_of_ble_eq_true rfl, by decide +kernel⟩
def k_Cr_shared : mm_K := (⟨"GodWeathers$Crew", "shared", "(LGodWeathers$Coast;II)I"⟩, prog_5_method_2_code, 3, some .int)
theorem ok_Cr_shared : mm_ok k_Cr_shared 3 := ⟨mm_in (mm_m4 (List.mem_of_getElem? (i := 204) rfl)) rfl, mm_in (mm_m1 (List.mem_of_getElem? (i := 20) rfl)) rfl, by decide +kernel, ⟨by decide +kernel, by decide +kernel⟩, Nat.le_of_ble_eq_true rfl, by decide +kernel⟩
def k_Cr_weathersOf : mm_K := (⟨"GodWeathers$Crew", "weathersOf", "(LGodWeathers$Coast;I)I"⟩, prog_5_method_3_code, 4, some .int)
theorem ok_Cr_weathersOf : mm_ok k_Cr_weathersOf 2 := ⟨mm_in (mm_m4 (List.mem_of_getElem? (i := 85) rfl)) rfl, mm_in (mm_m1 (List.mem_of_getElem? (i := 20) rfl)) rfl, by decide +kernel, ⟨by decide +kernel, by decide +kernel⟩, Nat.le_of_ble_eq_true rfl, by decide +kernel⟩
def k_Cr_smallestVillage : mm_K := (⟨"GodWeathers$Crew", "smallestVillage", "(LGodWeathers$Coast;)I"⟩, prog_5_method_4_code, 4, some .int)
theorem ok_Cr_smallestVillage : mm_ok k_Cr_smallestVillage 1 := ⟨mm_in (mm_m4 (List.mem_of_getElem? (i := 81) rfl)) rfl, mm_in (mm_m1 (List.mem_of_getElem? (i := 20) rfl)) rfl, by decide +kernel, ⟨by decide +kernel, by decide +kernel⟩, Nat.le_of_ble_eq_true rfl, by decide +kernel⟩
def k_Cr_largestRaft : mm_K := (⟨"GodWeathers$Crew", "largestRaft", "(LGodWeathers$Coast;)I"⟩, prog_5_method_5_code, 5, some .int)
theorem ok_Cr_largestRaft : mm_ok k_Cr_largestRaft 1 := ⟨mm_in (mm_m4 (List.mem_of_getElem? (i := 222) rfl)) rfl, mm_in (mm_m1 (List.mem_of_getElem? (i := 20) rfl)) rfl, by decide +kernel, ⟨by decide +kernel, by decide +kernel⟩, Nat.le_of_ble_eq_true rfl, by decide +kernel⟩
def k_Cr_clanOf : mm_K := (⟨"GodWeathers$Crew", "clanOf", "(LGodWeathers$Coast;I)I"⟩, prog_5_method_6_code, 6, some .int)
theorem ok_Cr_clanOf : mm_ok k_Cr_clanOf 2 := ⟨mm_in (mm_m4 (List.mem_of_getElem? (i := 214) rfl)) rfl, mm_in (mm_m1 (List.mem_of_getElem? (i := 20) rfl)) rfl, by decide +kernel, ⟨by decide +kernel, by decide +kernel⟩, Nat.le_of_ble_eq_true rfl, by decide +kernel⟩
def k_Cr_howManyClans : mm_K := (⟨"GodWeathers$Crew", "howManyClans", "(LGodWeathers$Coast;)I"⟩, prog_5_method_7_code, 3, some .int)
theorem ok_Cr_howManyClans : mm_ok k_Cr_howManyClans 1 := ⟨mm_in (mm_m4 (List.mem_of_getElem? (i := 211) rfl)) rfl, mm_in (mm_m1 (List.mem_of_getElem? (i := 20) rfl)) rfl, by decide +kernel, ⟨by decide +kernel, by decide +kernel⟩, Nat.le_of_ble_eq_true rfl, by decide +kernel⟩
def k_Cr_twins : mm_K := (⟨"GodWeathers$Crew", "twins", "(LGodWeathers$Coast;)I"⟩, prog_5_method_8_code, 4, some .int)
theorem ok_Cr_twins : mm_ok k_Cr_twins 1 := ⟨mm_in (mm_m4 (List.mem_of_getElem? (i := 218) rfl)) rfl, mm_in (mm_m1 (List.mem_of_getElem? (i := 20) rfl)) rfl, by decide +kernel, ⟨by decide +kernel, by decide +kernel⟩, Nat.le_of_ble_eq_true rfl, by decide +kernel⟩
def k_Cr_loners : mm_K := (⟨"GodWeathers$Crew", "loners", "(LGodWeathers$Coast;)I"⟩, prog_5_method_9_code, 4, some .int)
theorem ok_Cr_loners : mm_ok k_Cr_loners 1 := ⟨mm_in (mm_m5 (List.mem_of_getElem? (i := 12) rfl)) rfl, mm_in (mm_m1 (List.mem_of_getElem? (i := 20) rfl)) rfl, by decide +kernel, ⟨by decide +kernel, by decide +kernel⟩, Nat.le_of_ble_eq_true rfl, by decide +kernel⟩
def k_Cr_mostCouples : mm_K := (⟨"GodWeathers$Crew", "mostCouples", "(LGodWeathers$Coast;)I"⟩, prog_5_method_10_code, 1, some .int)
theorem ok_Cr_mostCouples : mm_ok k_Cr_mostCouples 1 := ⟨mm_in (mm_m4 (List.mem_of_getElem? (i := 225) rfl)) rfl, mm_in (mm_m1 (List.mem_of_getElem? (i := 20) rfl)) rfl, by decide +kernel, ⟨by decide +kernel, by decide +kernel⟩, Nat.le_of_ble_eq_true rfl, by decide +kernel⟩
def k_Cr_mostCouplesFrom : mm_K := (⟨"GodWeathers$Crew", "mostCouplesFrom", "(LGodWeathers$Coast;II)I"⟩, prog_5_method_11_code, 5, some .int)
theorem ok_Cr_mostCouplesFrom : mm_ok k_Cr_mostCouplesFrom 3 := ⟨mm_in (mm_m4 (List.mem_of_getElem? (i := 228) rfl)) rfl, mm_in (mm_m1 (List.mem_of_getElem? (i := 20) rfl)) rfl, by decide +kernel, ⟨by decide +kernel, by decide +kernel⟩, Nat.le_of_ble_eq_true rfl, by decide +kernel⟩
def k_Da_init : mm_K := (⟨"GodWeathers$Days", "<init>", "()V"⟩, prog_6_method_1_code, 1, none)
theorem ok_Da_init : mm_ok k_Da_init 0 := ⟨mm_in (mm_m1 (List.mem_of_getElem? (i := 235) rfl)) rfl, mm_in (mm_m1 (List.mem_of_getElem? (i := 7) rfl)) rfl, by decide +kernel, ⟨by decide +kernel, by decide +kernel⟩, Nat.le_of_ble_eq_true rfl, by decide +kernel⟩
def k_Da_begin : mm_K := (⟨"GodWeathers$Days", "begin", "(LGodWeathers$Coast;)V"⟩, prog_6_method_2_code, 2, none)
theorem ok_Da_begin : mm_ok k_Da_begin 1 := ⟨mm_in (mm_m3 (List.mem_of_getElem? (i := 169) rfl)) rfl, mm_in (mm_m1 (List.mem_of_getElem? (i := 7) rfl)) rfl, by decide +kernel, ⟨by decide +kernel, by decide +kernel⟩, Nat.le_of_ble_eq_true rfl, by decide +kernel⟩
def k_Da_live : mm_K := (⟨"GodWeathers$Days", "live", "(LGodWeathers$Coast;LGodWeathers$Year;I)I"⟩, prog_6_method_3_code, 6, some .int)
theorem ok_Da_live : mm_ok k_Da_live 3 := ⟨mm_in (mm_m3 (List.mem_of_getElem? (i := 165) rfl)) rfl, mm_in (mm_m1 (List.mem_of_getElem? (i := 7) rfl)) rfl, by decide +kernel, ⟨by decide +kernel, by decide +kernel⟩, Nat.le_of_ble_eq_true rfl, by decide +kernel⟩
def k_Da_draw : mm_K := (⟨"GodWeathers$Days", "draw", "(LGodWeathers$Coast;II)V"⟩, prog_6_method_4_code, 5, none)
theorem ok_Da_draw : mm_ok k_Da_draw 3 := ⟨mm_in (mm_m4 (List.mem_of_getElem? (i := 179) rfl)) rfl, mm_in (mm_m1 (List.mem_of_getElem? (i := 7) rfl)) rfl, by decide +kernel, ⟨by decide +kernel, by decide +kernel⟩, Nat.le_of_ble_eq_true rfl, by decide +kernel⟩
def k_Da_drawDeed : mm_K := (⟨"GodWeathers$Days", "drawDeed", "(I)V"⟩, prog_6_method_5_code, 4, none)
theorem ok_Da_drawDeed : mm_ok k_Da_drawDeed 1 := ⟨mm_in (mm_m4 (List.mem_of_getElem? (i := 183) rfl)) rfl, mm_in (mm_m1 (List.mem_of_getElem? (i := 7) rfl)) rfl, by decide +kernel, ⟨by decide +kernel, by decide +kernel⟩, Nat.le_of_ble_eq_true rfl, by decide +kernel⟩
def k_Da_drawBelow : mm_K := (⟨"GodWeathers$Days", "drawBelow", "(I)I"⟩, prog_6_method_6_code, 2, some .int)
theorem ok_Da_drawBelow : mm_ok k_Da_drawBelow 1 := ⟨mm_in (mm_m4 (List.mem_of_getElem? (i := 187) rfl)) rfl, mm_in (mm_m1 (List.mem_of_getElem? (i := 7) rfl)) rfl, by decide +kernel, ⟨by decide +kernel, by decide +kernel⟩, Nat.le_of_ble_eq_true rfl, by decide +kernel⟩
def k_Da_godparentAt : mm_K := (⟨"GodWeathers$Days", "godparentAt", "(II)I"⟩, prog_6_method_7_code, 5, some .int)
theorem ok_Da_godparentAt : mm_ok k_Da_godparentAt 2 := ⟨mm_in (mm_m4 (List.mem_of_getElem? (i := 192) rfl)) rfl, mm_in (mm_m1 (List.mem_of_getElem? (i := 7) rfl)) rfl, by decide +kernel, ⟨by decide +kernel, by decide +kernel⟩, Nat.le_of_ble_eq_true rfl, by decide +kernel⟩
def k_Da_deal : mm_K := (⟨"GodWeathers$Days", "deal", "(IIII)Z"⟩, prog_6_method_8_code, 5, some .boolean)
theorem ok_Da_deal : mm_ok k_Da_deal 4 := ⟨mm_in (mm_m3 (List.mem_of_getElem? (i := 175) rfl)) rfl, mm_in (mm_m1 (List.mem_of_getElem? (i := 7) rfl)) rfl, by decide +kernel, ⟨by decide +kernel, by decide +kernel⟩, Nat.le_of_ble_eq_true rfl, by decide +kernel⟩
def k_Da_ask : mm_K := (⟨"GodWeathers$Days", "ask", "(II)Z"⟩, prog_6_method_9_code, 3, some .boolean)
theorem ok_Da_ask : mm_ok k_Da_ask 2 := ⟨mm_in (mm_m3 (List.mem_of_getElem? (i := 179) rfl)) rfl, mm_in (mm_m1 (List.mem_of_getElem? (i := 7) rfl)) rfl, by decide +kernel, ⟨by decide +kernel, by decide +kernel⟩, Nat.le_of_ble_eq_true rfl, by decide +kernel⟩
def k_Da_thank : mm_K := (⟨"GodWeathers$Days", "thank", "(II)Z"⟩, prog_6_method_10_code, 3, some .boolean)
theorem ok_Da_thank : mm_ok k_Da_thank 2 := ⟨mm_in (mm_m3 (List.mem_of_getElem? (i := 195) rfl)) rfl, mm_in (mm_m1 (List.mem_of_getElem? (i := 7) rfl)) rfl, by decide +kernel, ⟨by decide +kernel, by decide +kernel⟩, Nat.le_of_ble_eq_true rfl, by decide +kernel⟩
def k_Da_work : mm_K := (⟨"GodWeathers$Days", "work", "(I)Z"⟩, prog_6_method_11_code, 2, some .boolean)
theorem ok_Da_work : mm_ok k_Da_work 1 := ⟨mm_in (mm_m3 (List.mem_of_getElem? (i := 199) rfl)) rfl, mm_in (mm_m1 (List.mem_of_getElem? (i := 7) rfl)) rfl, by decide +kernel, ⟨by decide +kernel, by decide +kernel⟩, Nat.le_of_ble_eq_true rfl, by decide +kernel⟩
def k_Da_passDay : mm_K := (⟨"GodWeathers$Days", "passDay", "(I)V"⟩, prog_6_method_12_code, 4, none)
theorem ok_Da_passDay : mm_ok k_Da_passDay 1 := ⟨mm_in (mm_m3 (List.mem_of_getElem? (i := 204) rfl)) rfl, mm_in (mm_m1 (List.mem_of_getElem? (i := 7) rfl)) rfl, by decide +kernel, ⟨by decide +kernel, by decide +kernel⟩, Nat.le_of_ble_eq_true rfl, by decide +kernel⟩
def k_Da_forget : mm_K := (⟨"GodWeathers$Days", "forget", "(III)V"⟩, prog_6_method_13_code, 5, none)
theorem ok_Da_forget : mm_ok k_Da_forget 3 := ⟨mm_in (mm_m3 (List.mem_of_getElem? (i := 208) rfl)) rfl, mm_in (mm_m1 (List.mem_of_getElem? (i := 7) rfl)) rfl, by decide +kernel, ⟨by decide +kernel, by decide +kernel⟩, Nat.le_of_ble_eq_true rfl, by decide +kernel⟩
def k_Da_eager : mm_K := (⟨"GodWeathers$Days", "eager", "()I"⟩, prog_6_method_14_code, 3, some .int)
theorem ok_Da_eager : mm_ok k_Da_eager 0 := ⟨mm_in (mm_m5 (List.mem_of_getElem? (i := 141) rfl)) rfl, mm_in (mm_m1 (List.mem_of_getElem? (i := 7) rfl)) rfl, by decide +kernel, ⟨by decide +kernel, by decide +kernel⟩, Nat.le_of_ble_eq_true rfl, by decide +kernel⟩
def k_Da_look : mm_K := (⟨"GodWeathers$Days", "look", "(I)I"⟩, prog_6_method_15_code, 2, some .int)
theorem ok_Da_look : mm_ok k_Da_look 1 := ⟨mm_in (mm_m3 (List.mem_of_getElem? (i := 223) rfl)) rfl, mm_in (mm_m1 (List.mem_of_getElem? (i := 7) rfl)) rfl, by decide +kernel, ⟨by decide +kernel, by decide +kernel⟩, Nat.le_of_ble_eq_true rfl, by decide +kernel⟩
def k_Da_lookAtChild : mm_K := (⟨"GodWeathers$Days", "lookAtChild", "(I)I"⟩, prog_6_method_16_code, 4, some .int)
theorem ok_Da_lookAtChild : mm_ok k_Da_lookAtChild 1 := ⟨mm_in (mm_m3 (List.mem_of_getElem? (i := 231) rfl)) rfl, mm_in (mm_m1 (List.mem_of_getElem? (i := 7) rfl)) rfl, by decide +kernel, ⟨by decide +kernel, by decide +kernel⟩, Nat.le_of_ble_eq_true rfl, by decide +kernel⟩
def k_Lo_init : mm_K := (⟨"GodWeathers$Log", "<init>", "()V"⟩, prog_7_method_1_code, 1, none)
theorem ok_Lo_init : mm_ok k_Lo_init 0 := ⟨mm_in (mm_m1 (List.mem_of_getElem? (i := 123) rfl)) rfl, mm_in (mm_m1 (List.mem_of_getElem? (i := 5) rfl)) rfl, by decide +kernel, ⟨by decide +kernel, by decide +kernel⟩, Nat.le_of_ble_eq_true rfl, by decide +kernel⟩
def k_Lo_copyFrom : mm_K := (⟨"GodWeathers$Log", "copyFrom", "(LGodWeathers$Log;)V"⟩, prog_7_method_2_code, 2, none)
theorem ok_Lo_copyFrom : mm_ok k_Lo_copyFrom 1 := ⟨mm_in (mm_m3 (List.mem_of_getElem? (i := 114) rfl)) rfl, mm_in (mm_m1 (List.mem_of_getElem? (i := 5) rfl)) rfl, by decide +kernel, ⟨by decide +kernel, by decide +kernel⟩, Nat.le_of_ble_eq_true rfl, by decide +kernel⟩
def k_Lo_add : mm_K := (⟨"GodWeathers$Log", "add", "(II)V"⟩, prog_7_method_3_code, 3, none)
theorem ok_Lo_add : mm_ok k_Lo_add 2 := ⟨mm_in (mm_m3 (List.mem_of_getElem? (i := 90) rfl)) rfl, mm_in (mm_m1 (List.mem_of_getElem? (i := 5) rfl)) rfl, by decide +kernel, ⟨by decide +kernel, by decide +kernel⟩, Nat.le_of_ble_eq_true rfl, by decide +kernel⟩
def k_Lo_look : mm_K := (⟨"GodWeathers$Log", "look", "(II)I"⟩, prog_7_method_4_code, 3, some .int)
theorem ok_Lo_look : mm_ok k_Lo_look 2 := ⟨mm_in (mm_m4 (List.mem_of_getElem? (i := 138) rfl)) rfl, mm_in (mm_m1 (List.mem_of_getElem? (i := 5) rfl)) rfl, by decide +kernel, ⟨by decide +kernel, by decide +kernel⟩, Nat.le_of_ble_eq_true rfl, by decide +kernel⟩
def k_Lo_allows : mm_K := (⟨"GodWeathers$Log", "allows", "(I)Z"⟩, prog_7_method_5_code, 3, some .boolean)
theorem ok_Lo_allows : mm_ok k_Lo_allows 1 := ⟨mm_in (mm_m4 (List.mem_of_getElem? (i := 150) rfl)) rfl, mm_in (mm_m1 (List.mem_of_getElem? (i := 5) rfl)) rfl, by decide +kernel, ⟨by decide +kernel, by decide +kernel⟩, Nat.le_of_ble_eq_true rfl, by decide +kernel⟩
def k_Lo_howManyHave : mm_K := (⟨"GodWeathers$Log", "howManyHave", "(I)I"⟩, prog_7_method_6_code, 4, some .int)
theorem ok_Lo_howManyHave : mm_ok k_Lo_howManyHave 1 := ⟨mm_in (mm_m4 (List.mem_of_getElem? (i := 146) rfl)) rfl, mm_in (mm_m1 (List.mem_of_getElem? (i := 5) rfl)) rfl, by decide +kernel, ⟨by decide +kernel, by decide +kernel⟩, Nat.le_of_ble_eq_true rfl, by decide +kernel⟩
def k_Lo_inAll : mm_K := (⟨"GodWeathers$Log", "inAll", "()I"⟩, prog_7_method_7_code, 3, some .int)
theorem ok_Lo_inAll : mm_ok k_Lo_inAll 0 := ⟨mm_in (mm_m4 (List.mem_of_getElem? (i := 156) rfl)) rfl, mm_in (mm_m1 (List.mem_of_getElem? (i := 5) rfl)) rfl, by decide +kernel, ⟨by decide +kernel, by decide +kernel⟩, Nat.le_of_ble_eq_true rfl, by decide +kernel⟩
def k_Lo_bestQuestion : mm_K := (⟨"GodWeathers$Log", "bestQuestion", "()I"⟩, prog_7_method_8_code, 7, some .int)
theorem ok_Lo_bestQuestion : mm_ok k_Lo_bestQuestion 0 := ⟨mm_in (mm_m4 (List.mem_of_getElem? (i := 160) rfl)) rfl, mm_in (mm_m1 (List.mem_of_getElem? (i := 5) rfl)) rfl, by decide +kernel, ⟨by decide +kernel, by decide +kernel⟩, Nat.le_of_ble_eq_true rfl, by decide +kernel⟩
def k_Lo_fitting : mm_K := (⟨"GodWeathers$Log", "fitting", "(I)I"⟩, prog_7_method_9_code, 4, some .int)
theorem ok_Lo_fitting : mm_ok k_Lo_fitting 1 := ⟨mm_in (mm_m4 (List.mem_of_getElem? (i := 166) rfl)) rfl, mm_in (mm_m1 (List.mem_of_getElem? (i := 5) rfl)) rfl, by decide +kernel, ⟨by decide +kernel, by decide +kernel⟩, Nat.le_of_ble_eq_true rfl, by decide +kernel⟩
def k_Re_init : mm_K := (⟨"GodWeathers$Reader", "<init>", "()V"⟩, prog_8_method_1_code, 1, none)
theorem ok_Re_init : mm_ok k_Re_init 0 := ⟨mm_in (mm_m1 (List.mem_of_getElem? (i := 172) rfl)) rfl, mm_in (mm_m1 (List.mem_of_getElem? (i := 6) rfl)) rfl, by decide +kernel, ⟨by decide +kernel, by decide +kernel⟩, Nat.le_of_ble_eq_true rfl, by decide +kernel⟩
def k_Re_read : mm_K := (⟨"GodWeathers$Reader", "read", "([BII)V"⟩, prog_8_method_2_code, 5, none)
theorem ok_Re_read : mm_ok k_Re_read 3 := ⟨mm_in (mm_m2 (List.mem_of_getElem? (i := 179) rfl)) rfl, mm_in (mm_m1 (List.mem_of_getElem? (i := 6) rfl)) rfl, by decide +kernel, ⟨by decide +kernel, by decide +kernel⟩, Nat.le_of_ble_eq_true rfl, by decide +kernel⟩
def k_Re_readLine : mm_K := (⟨"GodWeathers$Reader", "readLine", "()V"⟩, prog_8_method_3_code, 4, none)
theorem ok_Re_readLine : mm_ok k_Re_readLine 0 := ⟨mm_in (mm_m2 (List.mem_of_getElem? (i := 213) rfl)) rfl, mm_in (mm_m1 (List.mem_of_getElem? (i := 6) rfl)) rfl, by decide +kernel, ⟨by decide +kernel, by decide +kernel⟩, Nat.le_of_ble_eq_true rfl, by decide +kernel⟩
def k_Re_getStuck : mm_K := (⟨"GodWeathers$Reader", "getStuck", "()V"⟩, prog_8_method_4_code, 1, none)
theorem ok_Re_getStuck : mm_ok k_Re_getStuck 0 := ⟨mm_in (mm_m3 (List.mem_of_getElem? (i := 58) rfl)) rfl, mm_in (mm_m1 (List.mem_of_getElem? (i := 6) rfl)) rfl, by decide +kernel, ⟨by decide +kernel, by decide +kernel⟩, Nat.le_of_ble_eq_true rfl, by decide +kernel⟩
def k_Re_note : mm_K := (⟨"GodWeathers$Reader", "note", "(II)V"⟩, prog_8_method_5_code, 3, none)
theorem ok_Re_note : mm_ok k_Re_note 2 := ⟨mm_in (mm_m3 (List.mem_of_getElem? (i := 72) rfl)) rfl, mm_in (mm_m1 (List.mem_of_getElem? (i := 6) rfl)) rfl, by decide +kernel, ⟨by decide +kernel, by decide +kernel⟩, Nat.le_of_ble_eq_true rfl, by decide +kernel⟩
def k_Re_judge : mm_K := (⟨"GodWeathers$Reader", "judge", "(II)V"⟩, prog_8_method_6_code, 4, none)
theorem ok_Re_judge : mm_ok k_Re_judge 2 := ⟨mm_in (mm_m3 (List.mem_of_getElem? (i := 64) rfl)) rfl, mm_in (mm_m1 (List.mem_of_getElem? (i := 6) rfl)) rfl, by decide +kernel, ⟨by decide +kernel, by decide +kernel⟩, Nat.le_of_ble_eq_true rfl, by decide +kernel⟩
def k_Re_isFull : mm_K := (⟨"GodWeathers$Reader", "isFull", "(I)Z"⟩, prog_8_method_7_code, 2, some .boolean)
theorem ok_Re_isFull : mm_ok k_Re_isFull 1 := ⟨mm_in (mm_m3 (List.mem_of_getElem? (i := 68) rfl)) rfl, mm_in (mm_m1 (List.mem_of_getElem? (i := 6) rfl)) rfl, by decide +kernel, ⟨by decide +kernel, by decide +kernel⟩, Nat.le_of_ble_eq_true rfl, by decide +kernel⟩
def k_Re_canBe : mm_K := (⟨"GodWeathers$Reader", "canBe", "(II)Z"⟩, prog_8_method_8_code, 4, some .boolean)
theorem ok_Re_canBe : mm_ok k_Re_canBe 2 := ⟨mm_in (mm_m3 (List.mem_of_getElem? (i := 76) rfl)) rfl, mm_in (mm_m1 (List.mem_of_getElem? (i := 6) rfl)) rfl, by decide +kernel, ⟨by decide +kernel, by decide +kernel⟩, Nat.le_of_ble_eq_true rfl, by decide +kernel⟩
def k_Re_tellOfCoast : mm_K := (⟨"GodWeathers$Reader", "tellOfCoast", "(I)V"⟩, prog_8_method_9_code, 4, none)
theorem ok_Re_tellOfCoast : mm_ok k_Re_tellOfCoast 1 := ⟨mm_in (mm_m3 (List.mem_of_getElem? (i := 82) rfl)) rfl, mm_in (mm_m1 (List.mem_of_getElem? (i := 6) rfl)) rfl, by decide +kernel, ⟨by decide +kernel, by decide +kernel⟩, Nat.le_of_ble_eq_true rfl, by decide +kernel⟩
def k_Re_lineOfWord : mm_K := (⟨"GodWeathers$Reader", "lineOfWord", "()I"⟩, prog_8_method_10_code, 1, some .int)
theorem ok_Re_lineOfWord : mm_ok k_Re_lineOfWord 0 := ⟨mm_in (mm_m2 (List.mem_of_getElem? (i := 217) rfl)) rfl, mm_in (mm_m1 (List.mem_of_getElem? (i := 6) rfl)) rfl, by decide +kernel, ⟨by decide +kernel, by decide +kernel⟩, Nat.le_of_ble_eq_true rfl, by decide +kernel⟩
def k_Re_coastLine : mm_K := (⟨"GodWeathers$Reader", "coastLine", "()I"⟩, prog_8_method_11_code, 1, some .int)
theorem ok_Re_coastLine : mm_ok k_Re_coastLine 0 := ⟨mm_in (mm_m2 (List.mem_of_getElem? (i := 221) rfl)) rfl, mm_in (mm_m1 (List.mem_of_getElem? (i := 6) rfl)) rfl, by decide +kernel, ⟨by decide +kernel, by decide +kernel⟩, Nat.le_of_ble_eq_true rfl, by decide +kernel⟩
def k_Re_deedLine : mm_K := (⟨"GodWeathers$Reader", "deedLine", "()I"⟩, prog_8_method_12_code, 1, some .int)
theorem ok_Re_deedLine : mm_ok k_Re_deedLine 0 := ⟨mm_in (mm_m3 (List.mem_of_getElem? (i := 43) rfl)) rfl, mm_in (mm_m1 (List.mem_of_getElem? (i := 6) rfl)) rfl, by decide +kernel, ⟨by decide +kernel, by decide +kernel⟩, Nat.le_of_ble_eq_true rfl, by decide +kernel⟩
def k_Re_factLine : mm_K := (⟨"GodWeathers$Reader", "factLine", "()I"⟩, prog_8_method_13_code, 1, some .int)
theorem ok_Re_factLine : mm_ok k_Re_factLine 0 := ⟨mm_in (mm_m3 (List.mem_of_getElem? (i := 52) rfl)) rfl, mm_in (mm_m1 (List.mem_of_getElem? (i := 6) rfl)) rfl, by decide +kernel, ⟨by decide +kernel, by decide +kernel⟩, Nat.le_of_ble_eq_true rfl, by decide +kernel⟩
def k_Re_isWord : mm_K := (⟨"GodWeathers$Reader", "isWord", "(Ljava/lang/String;)Z"⟩, prog_8_method_14_code, 3, some .boolean)
theorem ok_Re_isWord : mm_ok k_Re_isWord 1 := ⟨mm_in (mm_m2 (List.mem_of_getElem? (i := 226) rfl)) rfl, mm_in (mm_m1 (List.mem_of_getElem? (i := 6) rfl)) rfl, by decide +kernel, ⟨by decide +kernel, by decide +kernel⟩, Nat.le_of_ble_eq_true rfl, by decide +kernel⟩
def k_Re_takeToken : mm_K := (⟨"GodWeathers$Reader", "takeToken", "()V"⟩, prog_8_method_15_code, 1, none)
theorem ok_Re_takeToken : mm_ok k_Re_takeToken 0 := ⟨mm_in (mm_m2 (List.mem_of_getElem? (i := 193) rfl)) rfl, mm_in (mm_m1 (List.mem_of_getElem? (i := 6) rfl)) rfl, by decide +kernel, ⟨by decide +kernel, by decide +kernel⟩, Nat.le_of_ble_eq_true rfl, by decide +kernel⟩
def k_Re_takeWord : mm_K := (⟨"GodWeathers$Reader", "takeWord", "()V"⟩, prog_8_method_16_code, 1, none)
theorem ok_Re_takeWord : mm_ok k_Re_takeWord 0 := ⟨mm_in (mm_m2 (List.mem_of_getElem? (i := 201) rfl)) rfl, mm_in (mm_m1 (List.mem_of_getElem? (i := 6) rfl)) rfl, by decide +kernel, ⟨by decide +kernel, by decide +kernel⟩, Nat.le_of_ble_eq_true rfl, by decide +kernel⟩
def k_Re_takeNumber : mm_K := (⟨"GodWeathers$Reader", "takeNumber", "()V"⟩, prog_8_method_17_code, 1, none)
theorem ok_Re_takeNumber : mm_ok k_Re_takeNumber 0 := ⟨mm_in (mm_m2 (List.mem_of_getElem? (i := 209) rfl)) rfl, mm_in (mm_m1 (List.mem_of_getElem? (i := 6) rfl)) rfl, by decide +kernel, ⟨by decide +kernel, by decide +kernel⟩, Nat.le_of_ble_eq_true rfl, by decide +kernel⟩
def k_Re_isLetter : mm_K := (⟨"GodWeathers$Reader", "isLetter", "(I)Z"⟩, prog_8_method_18_code, 2, some .boolean)
theorem ok_Re_isLetter : mm_ok k_Re_isLetter 1 := ⟨mm_in (mm_m2 (List.mem_of_getElem? (i := 197) rfl)) rfl, mm_in (mm_m1 (List.mem_of_getElem? (i := 6) rfl)) rfl, by decide +kernel, ⟨by decide +kernel, by decide +kernel⟩, Nat.le_of_ble_eq_true rfl, by decide +kernel⟩
def k_Re_isDigit : mm_K := (⟨"GodWeathers$Reader", "isDigit", "(I)Z"⟩, prog_8_method_19_code, 2, some .boolean)
theorem ok_Re_isDigit : mm_ok k_Re_isDigit 1 := ⟨mm_in (mm_m2 (List.mem_of_getElem? (i := 205) rfl)) rfl, mm_in (mm_m1 (List.mem_of_getElem? (i := 6) rfl)) rfl, by decide +kernel, ⟨by decide +kernel, by decide +kernel⟩, Nat.le_of_ble_eq_true rfl, by decide +kernel⟩
def k_Sk_init : mm_K := (⟨"GodWeathers$Sky", "<init>", "()V"⟩, prog_9_method_1_code, 1, none)
theorem ok_Sk_init : mm_ok k_Sk_init 0 := ⟨mm_in (mm_m2 (List.mem_of_getElem? (i := 108) rfl)) rfl, mm_in (mm_m1 (List.mem_of_getElem? (i := 10) rfl)) rfl, by decide +kernel, ⟨by decide +kernel, by decide +kernel⟩, Nat.le_of_ble_eq_true rfl, by decide +kernel⟩
def k_Sk_rivals : mm_K := (⟨"GodWeathers$Sky", "rivals", "(LGodWeathers$Coast;)I"⟩, prog_9_method_2_code, 3, some .int)
theorem ok_Sk_rivals : mm_ok k_Sk_rivals 1 := ⟨mm_in (mm_m4 (List.mem_of_getElem? (i := 232) rfl)) rfl, mm_in (mm_m1 (List.mem_of_getElem? (i := 10) rfl)) rfl, by decide +kernel, ⟨by decide +kernel, by decide +kernel⟩, Nat.le_of_ble_eq_true rfl, by decide +kernel⟩
def k_Sk_largestCalm : mm_K := (⟨"GodWeathers$Sky", "largestCalm", "(LGodWeathers$Coast;)I"⟩, prog_9_method_3_code, 3, some .int)
theorem ok_Sk_largestCalm : mm_ok k_Sk_largestCalm 1 := ⟨mm_in (mm_m4 (List.mem_of_getElem? (i := 236) rfl)) rfl, mm_in (mm_m1 (List.mem_of_getElem? (i := 10) rfl)) rfl, by decide +kernel, ⟨by decide +kernel, by decide +kernel⟩, Nat.le_of_ble_eq_true rfl, by decide +kernel⟩
def k_Sk_isCalm : mm_K := (⟨"GodWeathers$Sky", "isCalm", "(LGodWeathers$Coast;I)Z"⟩, prog_9_method_4_code, 3, some .boolean)
theorem ok_Sk_isCalm : mm_ok k_Sk_isCalm 2 := ⟨mm_in (mm_m4 (List.mem_of_getElem? (i := 239) rfl)) rfl, mm_in (mm_m1 (List.mem_of_getElem? (i := 10) rfl)) rfl, by decide +kernel, ⟨by decide +kernel, by decide +kernel⟩, Nat.le_of_ble_eq_true rfl, by decide +kernel⟩
def k_Sk_longestLadder : mm_K := (⟨"GodWeathers$Sky", "longestLadder", "(LGodWeathers$Coast;)I"⟩, prog_9_method_5_code, 3, some .int)
theorem ok_Sk_longestLadder : mm_ok k_Sk_longestLadder 1 := ⟨mm_in (mm_m5 (List.mem_of_getElem? (i := 24) rfl)) rfl, mm_in (mm_m1 (List.mem_of_getElem? (i := 10) rfl)) rfl, by decide +kernel, ⟨by decide +kernel, by decide +kernel⟩, Nat.le_of_ble_eq_true rfl, by decide +kernel⟩
def k_Sk_climb : mm_K := (⟨"GodWeathers$Sky", "climb", "(III)V"⟩, prog_9_method_6_code, 6, none)
theorem ok_Sk_climb : mm_ok k_Sk_climb 3 := ⟨mm_in (mm_m5 (List.mem_of_getElem? (i := 28) rfl)) rfl, mm_in (mm_m1 (List.mem_of_getElem? (i := 10) rfl)) rfl, by decide +kernel, ⟨by decide +kernel, by decide +kernel⟩, Nat.le_of_ble_eq_true rfl, by decide +kernel⟩
def k_Sk_waysToCome : mm_K := (⟨"GodWeathers$Sky", "waysToCome", "(LGodWeathers$Coast;I)J"⟩, prog_9_method_7_code, 8, some .long)
theorem ok_Sk_waysToCome : mm_ok k_Sk_waysToCome 2 := ⟨mm_in (mm_m5 (List.mem_of_getElem? (i := 37) rfl)) rfl, mm_in (mm_m1 (List.mem_of_getElem? (i := 10) rfl)) rfl, by decide +kernel, ⟨by decide +kernel, by decide +kernel⟩, Nat.le_of_ble_eq_true rfl, by decide +kernel⟩
def k_To_init : mm_K := (⟨"GodWeathers$Told", "<init>", "()V"⟩, prog_10_method_1_code, 1, none)
theorem ok_To_init : mm_ok k_To_init 0 := ⟨mm_in (mm_m1 (List.mem_of_getElem? (i := 33) rfl)) rfl, mm_in (mm_m1 (List.mem_of_getElem? (i := 2) rfl)) rfl, by decide +kernel, ⟨by decide +kernel, by decide +kernel⟩, Nat.le_of_ble_eq_true rfl, by decide +kernel⟩
def k_To_copyFrom : mm_K := (⟨"GodWeathers$Told", "copyFrom", "(LGodWeathers$Told;)V"⟩, prog_10_method_2_code, 3, none)
theorem ok_To_copyFrom : mm_ok k_To_copyFrom 1 := ⟨mm_in (mm_m5 (List.mem_of_getElem? (i := 159) rfl)) rfl, mm_in (mm_m1 (List.mem_of_getElem? (i := 2) rfl)) rfl, by decide +kernel, ⟨by decide +kernel, by decide +kernel⟩, Nat.le_of_ble_eq_true rfl, by decide +kernel⟩
def k_To_put : mm_K := (⟨"GodWeathers$Told", "put", "(I)V"⟩, prog_10_method_3_code, 3, none)
theorem ok_To_put : mm_ok k_To_put 1 := ⟨mm_in (mm_m2 (List.mem_of_getElem? (i := 160) rfl)) rfl, mm_in (mm_m1 (List.mem_of_getElem? (i := 2) rfl)) rfl, by decide +kernel, ⟨by decide +kernel, by decide +kernel⟩, Nat.le_of_ble_eq_true rfl, by decide +kernel⟩
def k_To_slotFor : mm_K := (⟨"GodWeathers$Told", "slotFor", "(II)I"⟩, prog_10_method_4_code, 3, some .int)
theorem ok_To_slotFor : mm_ok k_To_slotFor 2 := ⟨mm_in (mm_m2 (List.mem_of_getElem? (i := 172) rfl)) rfl, mm_in (mm_m1 (List.mem_of_getElem? (i := 2) rfl)) rfl, by decide +kernel, ⟨by decide +kernel, by decide +kernel⟩, Nat.le_of_ble_eq_true rfl, by decide +kernel⟩
def k_To_keep : mm_K := (⟨"GodWeathers$Told", "keep", "(LGodWeathers$Reader;II)V"⟩, prog_10_method_5_code, 4, none)
theorem ok_To_keep : mm_ok k_To_keep 3 := ⟨mm_in (mm_m3 (List.mem_of_getElem? (i := 98) rfl)) rfl, mm_in (mm_m1 (List.mem_of_getElem? (i := 2) rfl)) rfl, by decide +kernel, ⟨by decide +kernel, by decide +kernel⟩, Nat.le_of_ble_eq_true rfl, by decide +kernel⟩
def k_To_coastAt : mm_K := (⟨"GodWeathers$Told", "coastAt", "(I)LGodWeathers$Coast;"⟩, prog_10_method_6_code, 2, some (.object "GodWeathers$Coast"))
theorem ok_To_coastAt : mm_ok k_To_coastAt 1 := ⟨mm_in (mm_m3 (List.mem_of_getElem? (i := 130) rfl)) rfl, mm_in (mm_m1 (List.mem_of_getElem? (i := 2) rfl)) rfl, by decide +kernel, ⟨by decide +kernel, by decide +kernel⟩, Nat.le_of_ble_eq_true rfl, by decide +kernel⟩
def k_To_coastWithChild : mm_K := (⟨"GodWeathers$Told", "coastWithChild", "(II)LGodWeathers$Coast;"⟩, prog_10_method_7_code, 4, some (.object "GodWeathers$Coast"))
theorem ok_To_coastWithChild : mm_ok k_To_coastWithChild 2 := ⟨mm_in (mm_m4 (List.mem_of_getElem? (i := 200) rfl)) rfl, mm_in (mm_m1 (List.mem_of_getElem? (i := 2) rfl)) rfl, by decide +kernel, ⟨by decide +kernel, by decide +kernel⟩, Nat.le_of_ble_eq_true rfl, by decide +kernel⟩
def k_To_coastWithWork : mm_K := (⟨"GodWeathers$Told", "coastWithWork", "(II)LGodWeathers$Coast;"⟩, prog_10_method_8_code, 4, some (.object "GodWeathers$Coast"))
theorem ok_To_coastWithWork : mm_ok k_To_coastWithWork 2 := ⟨mm_in (mm_m4 (List.mem_of_getElem? (i := 0) rfl)) rfl, mm_in (mm_m1 (List.mem_of_getElem? (i := 2) rfl)) rfl, by decide +kernel, ⟨by decide +kernel, by decide +kernel⟩, Nat.le_of_ble_eq_true rfl, by decide +kernel⟩
def k_To_yearAt : mm_K := (⟨"GodWeathers$Told", "yearAt", "(I)LGodWeathers$Year;"⟩, prog_10_method_9_code, 2, some (.object "GodWeathers$Year"))
theorem ok_To_yearAt : mm_ok k_To_yearAt 1 := ⟨mm_in (mm_m3 (List.mem_of_getElem? (i := 153) rfl)) rfl, mm_in (mm_m1 (List.mem_of_getElem? (i := 2) rfl)) rfl, by decide +kernel, ⟨by decide +kernel, by decide +kernel⟩, Nat.le_of_ble_eq_true rfl, by decide +kernel⟩
def k_To_logAt : mm_K := (⟨"GodWeathers$Told", "logAt", "(I)LGodWeathers$Log;"⟩, prog_10_method_10_code, 2, some (.object "GodWeathers$Log"))
theorem ok_To_logAt : mm_ok k_To_logAt 1 := ⟨mm_in (mm_m4 (List.mem_of_getElem? (i := 134) rfl)) rfl, mm_in (mm_m1 (List.mem_of_getElem? (i := 2) rfl)) rfl, by decide +kernel, ⟨by decide +kernel, by decide +kernel⟩, Nat.le_of_ble_eq_true rfl, by decide +kernel⟩
def k_Ye_init : mm_K := (⟨"GodWeathers$Year", "<init>", "()V"⟩, prog_11_method_1_code, 1, none)
theorem ok_Ye_init : mm_ok k_Ye_init 0 := ⟨mm_in (mm_m1 (List.mem_of_getElem? (i := 97) rfl)) rfl, mm_in (mm_m1 (List.mem_of_getElem? (i := 4) rfl)) rfl, by decide +kernel, ⟨by decide +kernel, by decide +kernel⟩, Nat.le_of_ble_eq_true rfl, by decide +kernel⟩
def k_Ye_copyFrom : mm_K := (⟨"GodWeathers$Year", "copyFrom", "(LGodWeathers$Year;)V"⟩, prog_11_method_2_code, 2, none)
theorem ok_Ye_copyFrom : mm_ok k_Ye_copyFrom 1 := ⟨mm_in (mm_m3 (List.mem_of_getElem? (i := 109) rfl)) rfl, mm_in (mm_m1 (List.mem_of_getElem? (i := 4) rfl)) rfl, by decide +kernel, ⟨by decide +kernel, by decide +kernel⟩, Nat.le_of_ble_eq_true rfl, by decide +kernel⟩
def k_Ye_add : mm_K := (⟨"GodWeathers$Year", "add", "(III)V"⟩, prog_11_method_3_code, 4, none)
theorem ok_Ye_add : mm_ok k_Ye_add 3 := ⟨mm_in (mm_m3 (List.mem_of_getElem? (i := 86) rfl)) rfl, mm_in (mm_m1 (List.mem_of_getElem? (i := 4) rfl)) rfl, by decide +kernel, ⟨by decide +kernel, by decide +kernel⟩, Nat.le_of_ble_eq_true rfl, by decide +kernel⟩
def k_Ye_look : mm_K := (⟨"GodWeathers$Year", "look", "(II)I"⟩, prog_11_method_4_code, 3, some .int)
theorem ok_Ye_look : mm_ok k_Ye_look 2 := ⟨mm_in (mm_m3 (List.mem_of_getElem? (i := 157) rfl)) rfl, mm_in (mm_m1 (List.mem_of_getElem? (i := 4) rfl)) rfl, by decide +kernel, ⟨by decide +kernel, by decide +kernel⟩, Nat.le_of_ble_eq_true rfl, by decide +kernel⟩
def k_G_init : mm_K := (⟨"GodWeathers", "<init>", "()V"⟩, prog_1_method_1_code, 1, none)
theorem ok_G_init : mm_ok k_G_init 0 := ⟨mm_in (mm_m1 (List.mem_of_getElem? (i := 25) rfl)) rfl, mm_in (mm_m1 (List.mem_of_getElem? (i := 1) rfl)) rfl, by decide +kernel, ⟨by decide +kernel, by decide +kernel⟩, Nat.le_of_ble_eq_true rfl, by decide +kernel⟩
def k_G_feed : mm_K := (⟨"GodWeathers", "feed", "(IIIII)I"⟩, prog_1_method_2_code, 6, some .int)
theorem ok_G_feed : mm_ok k_G_feed 5 := ⟨mm_in (mm_m2 (List.mem_of_getElem? (i := 156) rfl)) rfl, mm_in (mm_m1 (List.mem_of_getElem? (i := 1) rfl)) rfl, by decide +kernel, ⟨by decide +kernel, by decide +kernel⟩, Nat.le_of_ble_eq_true rfl, by decide +kernel⟩
def k_G_end : mm_K := (⟨"GodWeathers", "end", "(I)I"⟩, prog_1_method_3_code, 2, some .int)
theorem ok_G_end : mm_ok k_G_end 1 := ⟨mm_in (mm_m2 (List.mem_of_getElem? (i := 164) rfl)) rfl, mm_in (mm_m1 (List.mem_of_getElem? (i := 1) rfl)) rfl, by decide +kernel, ⟨by decide +kernel, by decide +kernel⟩, Nat.le_of_ble_eq_true rfl, by decide +kernel⟩
def k_G_text : mm_K := (⟨"GodWeathers", "text", "(II)I"⟩, prog_1_method_4_code, 5, some .int)
theorem ok_G_text : mm_ok k_G_text 2 := ⟨mm_in (mm_m2 (List.mem_of_getElem? (i := 168) rfl)) rfl, mm_in (mm_m1 (List.mem_of_getElem? (i := 1) rfl)) rfl, by decide +kernel, ⟨by decide +kernel, by decide +kernel⟩, Nat.le_of_ble_eq_true rfl, by decide +kernel⟩
def k_G_fault : mm_K := (⟨"GodWeathers", "fault", "(I)I"⟩, prog_1_method_5_code, 2, some .int)
theorem ok_G_fault : mm_ok k_G_fault 1 := ⟨mm_in (mm_m3 (List.mem_of_getElem? (i := 122) rfl)) rfl, mm_in (mm_m1 (List.mem_of_getElem? (i := 1) rfl)) rfl, by decide +kernel, ⟨by decide +kernel, by decide +kernel⟩, Nat.le_of_ble_eq_true rfl, by decide +kernel⟩
def k_G_coast : mm_K := (⟨"GodWeathers", "coast", "(II)I"⟩, prog_1_method_6_code, 4, some .int)
theorem ok_G_coast : mm_ok k_G_coast 2 := ⟨mm_in (mm_m3 (List.mem_of_getElem? (i := 126) rfl)) rfl, mm_in (mm_m1 (List.mem_of_getElem? (i := 1) rfl)) rfl, by decide +kernel, ⟨by decide +kernel, by decide +kernel⟩, Nat.le_of_ble_eq_true rfl, by decide +kernel⟩
def k_G_deed : mm_K := (⟨"GodWeathers", "deed", "(III)I"⟩, prog_1_method_7_code, 5, some .int)
theorem ok_G_deed : mm_ok k_G_deed 3 := ⟨mm_in (mm_m3 (List.mem_of_getElem? (i := 149) rfl)) rfl, mm_in (mm_m1 (List.mem_of_getElem? (i := 1) rfl)) rfl, by decide +kernel, ⟨by decide +kernel, by decide +kernel⟩, Nat.le_of_ble_eq_true rfl, by decide +kernel⟩
def k_G_till : mm_K := (⟨"GodWeathers", "till", "(II)I"⟩, prog_1_method_8_code, 5, some .int)
theorem ok_G_till : mm_ok k_G_till 2 := ⟨mm_in (mm_m3 (List.mem_of_getElem? (i := 161) rfl)) rfl, mm_in (mm_m1 (List.mem_of_getElem? (i := 1) rfl)) rfl, by decide +kernel, ⟨by decide +kernel, by decide +kernel⟩, Nat.le_of_ble_eq_true rfl, by decide +kernel⟩
def k_G_state : mm_K := (⟨"GodWeathers", "state", "(IIII)I"⟩, prog_1_method_9_code, 7, some .int)
theorem ok_G_state : mm_ok k_G_state 4 := ⟨mm_in (mm_m3 (List.mem_of_getElem? (i := 219) rfl)) rfl, mm_in (mm_m1 (List.mem_of_getElem? (i := 1) rfl)) rfl, by decide +kernel, ⟨by decide +kernel, by decide +kernel⟩, Nat.le_of_ble_eq_true rfl, by decide +kernel⟩
def k_G_call : mm_K := (⟨"GodWeathers", "call", "(III)I"⟩, prog_1_method_10_code, 7, some .int)
theorem ok_G_call : mm_ok k_G_call 3 := ⟨mm_in (mm_m3 (List.mem_of_getElem? (i := 236) rfl)) rfl, mm_in (mm_m1 (List.mem_of_getElem? (i := 1) rfl)) rfl, by decide +kernel, ⟨by decide +kernel, by decide +kernel⟩, Nat.le_of_ble_eq_true rfl, by decide +kernel⟩
def k_G_feast : mm_K := (⟨"GodWeathers", "feast", "(II)I"⟩, prog_1_method_11_code, 3, some .int)
theorem ok_G_feast : mm_ok k_G_feast 2 := ⟨mm_in (mm_m4 (List.mem_of_getElem? (i := 21) rfl)) rfl, mm_in (mm_m1 (List.mem_of_getElem? (i := 1) rfl)) rfl, by decide +kernel, ⟨by decide +kernel, by decide +kernel⟩, Nat.le_of_ble_eq_true rfl, by decide +kernel⟩
def k_G_odds : mm_K := (⟨"GodWeathers", "odds", "(IIIZ)J"⟩, prog_1_method_12_code, 7, some .long)
theorem ok_G_odds : mm_ok k_G_odds 4 := ⟨mm_in (mm_m4 (List.mem_of_getElem? (i := 58) rfl)) rfl, mm_in (mm_m1 (List.mem_of_getElem? (i := 1) rfl)) rfl, by decide +kernel, ⟨by decide +kernel, by decide +kernel⟩, Nat.le_of_ble_eq_true rfl, by decide +kernel⟩
def k_G_village : mm_K := (⟨"GodWeathers", "village", "(IZ)I"⟩, prog_1_method_13_code, 5, some .int)
theorem ok_G_village : mm_ok k_G_village 2 := ⟨mm_in (mm_m4 (List.mem_of_getElem? (i := 78) rfl)) rfl, mm_in (mm_m1 (List.mem_of_getElem? (i := 1) rfl)) rfl, by decide +kernel, ⟨by decide +kernel, by decide +kernel⟩, Nat.le_of_ble_eq_true rfl, by decide +kernel⟩
def k_G_boats : mm_K := (⟨"GodWeathers", "boats", "(II)I"⟩, prog_1_method_14_code, 4, some .int)
theorem ok_G_boats : mm_ok k_G_boats 2 := ⟨mm_in (mm_m4 (List.mem_of_getElem? (i := 91) rfl)) rfl, mm_in (mm_m1 (List.mem_of_getElem? (i := 1) rfl)) rfl, by decide +kernel, ⟨by decide +kernel, by decide +kernel⟩, Nat.le_of_ble_eq_true rfl, by decide +kernel⟩
def k_G_headland : mm_K := (⟨"GodWeathers", "headland", "(IIZ)I"⟩, prog_1_method_15_code, 5, some .int)
theorem ok_G_headland : mm_ok k_G_headland 3 := ⟨mm_in (mm_m4 (List.mem_of_getElem? (i := 105) rfl)) rfl, mm_in (mm_m1 (List.mem_of_getElem? (i := 1) rfl)) rfl, by decide +kernel, ⟨by decide +kernel, by decide +kernel⟩, Nat.le_of_ble_eq_true rfl, by decide +kernel⟩
def k_G_waits : mm_K := (⟨"GodWeathers", "waits", "(IIII)J"⟩, prog_1_method_16_code, 11, some .long)
theorem ok_G_waits : mm_ok k_G_waits 4 := ⟨mm_in (mm_m4 (List.mem_of_getElem? (i := 125) rfl)) rfl, mm_in (mm_m1 (List.mem_of_getElem? (i := 1) rfl)) rfl, by decide +kernel, ⟨by decide +kernel, by decide +kernel⟩, Nat.le_of_ble_eq_true rfl, by decide +kernel⟩
def k_G_fact : mm_K := (⟨"GodWeathers", "fact", "(III)I"⟩, prog_1_method_17_code, 5, some .int)
theorem ok_G_fact : mm_ok k_G_fact 3 := ⟨mm_in (mm_m4 (List.mem_of_getElem? (i := 130) rfl)) rfl, mm_in (mm_m1 (List.mem_of_getElem? (i := 1) rfl)) rfl, by decide +kernel, ⟨by decide +kernel, by decide +kernel⟩, Nat.le_of_ble_eq_true rfl, by decide +kernel⟩
def k_G_fits : mm_K := (⟨"GodWeathers", "fits", "(II)I"⟩, prog_1_method_18_code, 5, some .int)
theorem ok_G_fits : mm_ok k_G_fits 2 := ⟨mm_in (mm_m4 (List.mem_of_getElem? (i := 142) rfl)) rfl, mm_in (mm_m1 (List.mem_of_getElem? (i := 1) rfl)) rfl, by decide +kernel, ⟨by decide +kernel, by decide +kernel⟩, Nat.le_of_ble_eq_true rfl, by decide +kernel⟩
def k_G_whose : mm_K := (⟨"GodWeathers", "whose", "(II)I"⟩, prog_1_method_19_code, 7, some .int)
theorem ok_G_whose : mm_ok k_G_whose 2 := ⟨mm_in (mm_m4 (List.mem_of_getElem? (i := 170) rfl)) rfl, mm_in (mm_m1 (List.mem_of_getElem? (i := 1) rfl)) rfl, by decide +kernel, ⟨by decide +kernel, by decide +kernel⟩, Nat.le_of_ble_eq_true rfl, by decide +kernel⟩
def k_G_drawn : mm_K := (⟨"GodWeathers", "drawn", "(IIII)I"⟩, prog_1_method_20_code, 6, some .int)
theorem ok_G_drawn : mm_ok k_G_drawn 4 := ⟨mm_in (mm_m4 (List.mem_of_getElem? (i := 175) rfl)) rfl, mm_in (mm_m1 (List.mem_of_getElem? (i := 1) rfl)) rfl, by decide +kernel, ⟨by decide +kernel, by decide +kernel⟩, Nat.le_of_ble_eq_true rfl, by decide +kernel⟩
def k_G_kin : mm_K := (⟨"GodWeathers", "kin", "(III)I"⟩, prog_1_method_21_code, 5, some .int)
theorem ok_G_kin : mm_ok k_G_kin 3 := ⟨mm_in (mm_m4 (List.mem_of_getElem? (i := 196) rfl)) rfl, mm_in (mm_m1 (List.mem_of_getElem? (i := 1) rfl)) rfl, by decide +kernel, ⟨by decide +kernel, by decide +kernel⟩, Nat.le_of_ble_eq_true rfl, by decide +kernel⟩
def k_G_clan : mm_K := (⟨"GodWeathers", "clan", "(II)I"⟩, prog_1_method_22_code, 4, some .int)
theorem ok_G_clan : mm_ok k_G_clan 2 := ⟨mm_in (mm_m4 (List.mem_of_getElem? (i := 208) rfl)) rfl, mm_in (mm_m1 (List.mem_of_getElem? (i := 1) rfl)) rfl, by decide +kernel, ⟨by decide +kernel, by decide +kernel⟩, Nat.le_of_ble_eq_true rfl, by decide +kernel⟩
def k_G_lone : mm_K := (⟨"GodWeathers", "lone", "(IZ)I"⟩, prog_1_method_23_code, 4, some .int)
theorem ok_G_lone : mm_ok k_G_lone 2 := ⟨mm_in (mm_m5 (List.mem_of_getElem? (i := 5) rfl)) rfl, mm_in (mm_m1 (List.mem_of_getElem? (i := 1) rfl)) rfl, by decide +kernel, ⟨by decide +kernel, by decide +kernel⟩, Nat.le_of_ble_eq_true rfl, by decide +kernel⟩
def k_G_near : mm_K := (⟨"GodWeathers", "near", "(II)I"⟩, prog_1_method_24_code, 6, some .int)
theorem ok_G_near : mm_ok k_G_near 2 := ⟨mm_in (mm_m5 (List.mem_of_getElem? (i := 16) rfl)) rfl, mm_in (mm_m1 (List.mem_of_getElem? (i := 1) rfl)) rfl, by decide +kernel, ⟨by decide +kernel, by decide +kernel⟩, Nat.le_of_ble_eq_true rfl, by decide +kernel⟩
def k_G_ladder : mm_K := (⟨"GodWeathers", "ladder", "(II)I"⟩, prog_1_method_25_code, 5, some .int)
theorem ok_G_ladder : mm_ok k_G_ladder 2 := ⟨mm_in (mm_m5 (List.mem_of_getElem? (i := 20) rfl)) rfl, mm_in (mm_m1 (List.mem_of_getElem? (i := 1) rfl)) rfl, by decide +kernel, ⟨by decide +kernel, by decide +kernel⟩, Nat.le_of_ble_eq_true rfl, by decide +kernel⟩
def k_G_storm : mm_K := (⟨"GodWeathers", "storm", "(IIZ)J"⟩, prog_1_method_26_code, 5, some .long)
theorem ok_G_storm : mm_ok k_G_storm 3 := ⟨mm_in (mm_m5 (List.mem_of_getElem? (i := 33) rfl)) rfl, mm_in (mm_m1 (List.mem_of_getElem? (i := 1) rfl)) rfl, by decide +kernel, ⟨by decide +kernel, by decide +kernel⟩, Nat.le_of_ble_eq_true rfl, by decide +kernel⟩
def k_G_lack : mm_K := (⟨"GodWeathers", "lack", "(II)I"⟩, prog_1_method_27_code, 4, some .int)
theorem ok_G_lack : mm_ok k_G_lack 2 := ⟨mm_in (mm_m5 (List.mem_of_getElem? (i := 46) rfl)) rfl, mm_in (mm_m1 (List.mem_of_getElem? (i := 1) rfl)) rfl, by decide +kernel, ⟨by decide +kernel, by decide +kernel⟩, Nat.le_of_ble_eq_true rfl, by decide +kernel⟩
def k_G_busy : mm_K := (⟨"GodWeathers", "busy", "(II)I"⟩, prog_1_method_28_code, 3, some .int)
theorem ok_G_busy : mm_ok k_G_busy 2 := ⟨mm_in (mm_m5 (List.mem_of_getElem? (i := 51) rfl)) rfl, mm_in (mm_m1 (List.mem_of_getElem? (i := 1) rfl)) rfl, by decide +kernel, ⟨by decide +kernel, by decide +kernel⟩, Nat.le_of_ble_eq_true rfl, by decide +kernel⟩
def k_G_lots : mm_K := (⟨"GodWeathers", "lots", "(IIZ)J"⟩, prog_1_method_29_code, 8, some .long)
theorem ok_G_lots : mm_ok k_G_lots 3 := ⟨mm_in (mm_m5 (List.mem_of_getElem? (i := 55) rfl)) rfl, mm_in (mm_m1 (List.mem_of_getElem? (i := 1) rfl)) rfl, by decide +kernel, ⟨by decide +kernel, by decide +kernel⟩, Nat.le_of_ble_eq_true rfl, by decide +kernel⟩
def k_G_heir : mm_K := (⟨"GodWeathers", "heir", "(IZ)I"⟩, prog_1_method_30_code, 8, some .int)
theorem ok_G_heir : mm_ok k_G_heir 2 := ⟨mm_in (mm_m5 (List.mem_of_getElem? (i := 66) rfl)) rfl, mm_in (mm_m1 (List.mem_of_getElem? (i := 1) rfl)) rfl, by decide +kernel, ⟨by decide +kernel, by decide +kernel⟩, Nat.le_of_ble_eq_true rfl, by decide +kernel⟩
def k_G_plan : mm_K := (⟨"GodWeathers", "plan", "(IZ)I"⟩, prog_1_method_31_code, 7, some .int)
theorem ok_G_plan : mm_ok k_G_plan 2 := ⟨mm_in (mm_m5 (List.mem_of_getElem? (i := 70) rfl)) rfl, mm_in (mm_m1 (List.mem_of_getElem? (i := 1) rfl)) rfl, by decide +kernel, ⟨by decide +kernel, by decide +kernel⟩, Nat.le_of_ble_eq_true rfl, by decide +kernel⟩
def k_G_levy : mm_K := (⟨"GodWeathers", "levy", "(II)I"⟩, prog_1_method_32_code, 4, some .int)
theorem ok_G_levy : mm_ok k_G_levy 2 := ⟨mm_in (mm_m5 (List.mem_of_getElem? (i := 90) rfl)) rfl, mm_in (mm_m1 (List.mem_of_getElem? (i := 1) rfl)) rfl, by decide +kernel, ⟨by decide +kernel, by decide +kernel⟩, Nat.le_of_ble_eq_true rfl, by decide +kernel⟩
def k_G_ready : mm_K := (⟨"GodWeathers", "ready", "(II)I"⟩, prog_1_method_33_code, 4, some .int)
theorem ok_G_ready : mm_ok k_G_ready 2 := ⟨mm_in (mm_m5 (List.mem_of_getElem? (i := 106) rfl)) rfl, mm_in (mm_m1 (List.mem_of_getElem? (i := 1) rfl)) rfl, by decide +kernel, ⟨by decide +kernel, by decide +kernel⟩, Nat.le_of_ble_eq_true rfl, by decide +kernel⟩
def k_G_hope : mm_K := (⟨"GodWeathers", "hope", "(IIZ)J"⟩, prog_1_method_34_code, 7, some .long)
theorem ok_G_hope : mm_ok k_G_hope 3 := ⟨mm_in (mm_m5 (List.mem_of_getElem? (i := 111) rfl)) rfl, mm_in (mm_m1 (List.mem_of_getElem? (i := 1) rfl)) rfl, by decide +kernel, ⟨by decide +kernel, by decide +kernel⟩, Nat.le_of_ble_eq_true rfl, by decide +kernel⟩
def k_G_pair : mm_K := (⟨"GodWeathers", "pair", "(IZ)I"⟩, prog_1_method_35_code, 9, some .int)
theorem ok_G_pair : mm_ok k_G_pair 2 := ⟨mm_in (mm_m5 (List.mem_of_getElem? (i := 115) rfl)) rfl, mm_in (mm_m1 (List.mem_of_getElem? (i := 1) rfl)) rfl, by decide +kernel, ⟨by decide +kernel, by decide +kernel⟩, Nat.le_of_ble_eq_true rfl, by decide +kernel⟩
def k_G_seat : mm_K := (⟨"GodWeathers", "seat", "(III)I"⟩, prog_1_method_36_code, 5, some .int)
theorem ok_G_seat : mm_ok k_G_seat 3 := ⟨mm_in (mm_m5 (List.mem_of_getElem? (i := 119) rfl)) rfl, mm_in (mm_m1 (List.mem_of_getElem? (i := 1) rfl)) rfl, by decide +kernel, ⟨by decide +kernel, by decide +kernel⟩, Nat.le_of_ble_eq_true rfl, by decide +kernel⟩
def k_G_tide : mm_K := (⟨"GodWeathers", "tide", "(IIZ)I"⟩, prog_1_method_37_code, 8, some .int)
theorem ok_G_tide : mm_ok k_G_tide 3 := ⟨mm_in (mm_m5 (List.mem_of_getElem? (i := 123) rfl)) rfl, mm_in (mm_m1 (List.mem_of_getElem? (i := 1) rfl)) rfl, by decide +kernel, ⟨by decide +kernel, by decide +kernel⟩, Nat.le_of_ble_eq_true rfl, by decide +kernel⟩
def k_G_first : mm_K := (⟨"GodWeathers", "first", "(IIZ)I"⟩, prog_1_method_38_code, 8, some .int)
theorem ok_G_first : mm_ok k_G_first 3 := ⟨mm_in (mm_m5 (List.mem_of_getElem? (i := 128) rfl)) rfl, mm_in (mm_m1 (List.mem_of_getElem? (i := 1) rfl)) rfl, by decide +kernel, ⟨by decide +kernel, by decide +kernel⟩, Nat.le_of_ble_eq_true rfl, by decide +kernel⟩
def k_G_kept : mm_K := (⟨"GodWeathers", "kept", "(III)I"⟩, prog_1_method_39_code, 7, some .int)
theorem ok_G_kept : mm_ok k_G_kept 3 := ⟨mm_in (mm_m5 (List.mem_of_getElem? (i := 133) rfl)) rfl, mm_in (mm_m1 (List.mem_of_getElem? (i := 1) rfl)) rfl, by decide +kernel, ⟨by decide +kernel, by decide +kernel⟩, Nat.le_of_ble_eq_true rfl, by decide +kernel⟩
def k_G_after : mm_K := (⟨"GodWeathers", "after", "(III)I"⟩, prog_1_method_40_code, 6, some .int)
theorem ok_G_after : mm_ok k_G_after 3 := ⟨mm_in (mm_m5 (List.mem_of_getElem? (i := 137) rfl)) rfl, mm_in (mm_m1 (List.mem_of_getElem? (i := 1) rfl)) rfl, by decide +kernel, ⟨by decide +kernel, by decide +kernel⟩, Nat.le_of_ble_eq_true rfl, by decide +kernel⟩
def k_G_share : mm_K := (⟨"GodWeathers", "share", "(IIZ)J"⟩, prog_1_method_41_code, 6, some .long)
theorem ok_G_share : mm_ok k_G_share 3 := ⟨mm_in (mm_m5 (List.mem_of_getElem? (i := 145) rfl)) rfl, mm_in (mm_m1 (List.mem_of_getElem? (i := 1) rfl)) rfl, by decide +kernel, ⟨by decide +kernel, by decide +kernel⟩, Nat.le_of_ble_eq_true rfl, by decide +kernel⟩
def k_G_count : mm_K := (⟨"GodWeathers", "count", "(I)I"⟩, prog_1_method_42_code, 2, some .int)
theorem ok_G_count : mm_ok k_G_count 1 := ⟨mm_in (mm_m5 (List.mem_of_getElem? (i := 150) rfl)) rfl, mm_in (mm_m1 (List.mem_of_getElem? (i := 1) rfl)) rfl, by decide +kernel, ⟨by decide +kernel, by decide +kernel⟩, Nat.le_of_ble_eq_true rfl, by decide +kernel⟩
def k_G_image : mm_K := (⟨"GodWeathers", "image", "(I)Z"⟩, prog_1_method_43_code, 2, some .boolean)
theorem ok_G_image : mm_ok k_G_image 1 := ⟨mm_in (mm_m5 (List.mem_of_getElem? (i := 155) rfl)) rfl, mm_in (mm_m1 (List.mem_of_getElem? (i := 1) rfl)) rfl, by decide +kernel, ⟨by decide +kernel, by decide +kernel⟩, Nat.le_of_ble_eq_true rfl, by decide +kernel⟩
def k_G_again : mm_K := (⟨"GodWeathers", "again", "(I)Z"⟩, prog_1_method_44_code, 2, some .boolean)
theorem ok_G_again : mm_ok k_G_again 1 := ⟨mm_in (mm_m5 (List.mem_of_getElem? (i := 164) rfl)) rfl, mm_in (mm_m1 (List.mem_of_getElem? (i := 1) rfl)) rfl, by decide +kernel, ⟨by decide +kernel, by decide +kernel⟩, Nat.le_of_ble_eq_true rfl, by decide +kernel⟩
def k_G_bestRow : mm_K := (⟨"GodWeathers", "bestRow", "(LGodWeathers$Coast;IZ)I"⟩, prog_1_method_45_code, 5, some .int)
theorem ok_G_bestRow : mm_ok k_G_bestRow 3 := ⟨mm_in (mm_m4 (List.mem_of_getElem? (i := 25) rfl)) rfl, mm_in (mm_m1 (List.mem_of_getElem? (i := 1) rfl)) rfl, by decide +kernel, ⟨by decide +kernel, by decide +kernel⟩, Nat.le_of_ble_eq_true rfl, by decide +kernel⟩
def k_G_isSort : mm_K := (⟨"GodWeathers", "isSort", "(I)Z"⟩, prog_1_method_46_code, 1, some .boolean)
theorem ok_G_isSort : mm_ok k_G_isSort 1 := ⟨mm_in (mm_m2 (List.mem_of_getElem? (i := 175) rfl)) rfl, mm_in (mm_m1 (List.mem_of_getElem? (i := 1) rfl)) rfl, by decide +kernel, ⟨by decide +kernel, by decide +kernel⟩, Nat.le_of_ble_eq_true rfl, by decide +kernel⟩
def k_G_isWeather : mm_K := (⟨"GodWeathers", "isWeather", "(I)Z"⟩, prog_1_method_47_code, 1, some .boolean)
theorem ok_G_isWeather : mm_ok k_G_isWeather 1 := ⟨mm_in (mm_m3 (List.mem_of_getElem? (i := 137) rfl)) rfl, mm_in (mm_m1 (List.mem_of_getElem? (i := 1) rfl)) rfl, by decide +kernel, ⟨by decide +kernel, by decide +kernel⟩, Nat.le_of_ble_eq_true rfl, by decide +kernel⟩
def k_G_isWeatherBits : mm_K := (⟨"GodWeathers", "isWeatherBits", "(I)Z"⟩, prog_1_method_48_code, 1, some .boolean)
theorem ok_G_isWeatherBits : mm_ok k_G_isWeatherBits 1 := ⟨mm_in (mm_m4 (List.mem_of_getElem? (i := 61) rfl)) rfl, mm_in (mm_m1 (List.mem_of_getElem? (i := 1) rfl)) rfl, by decide +kernel, ⟨by decide +kernel, by decide +kernel⟩, Nat.le_of_ble_eq_true rfl, by decide +kernel⟩
def k_G_has : mm_K := (⟨"GodWeathers", "has", "(II)Z"⟩, prog_1_method_49_code, 2, some .boolean)
theorem ok_G_has : mm_ok k_G_has 2 := ⟨mm_in (mm_m3 (List.mem_of_getElem? (i := 186) rfl)) rfl, mm_in (mm_m1 (List.mem_of_getElem? (i := 1) rfl)) rfl, by decide +kernel, ⟨by decide +kernel, by decide +kernel⟩, Nat.le_of_ble_eq_true rfl, by decide +kernel⟩
def k_G_leastTerms : mm_K := (⟨"GodWeathers", "leastTerms", "(JJZ)J"⟩, prog_1_method_50_code, 12, some .long)
theorem ok_G_leastTerms : mm_ok k_G_leastTerms 3 := ⟨mm_in (mm_m4 (List.mem_of_getElem? (i := 74) rfl)) rfl, mm_in (mm_m1 (List.mem_of_getElem? (i := 1) rfl)) rfl, by decide +kernel, ⟨by decide +kernel, by decide +kernel⟩, Nat.le_of_ble_eq_true rfl, by decide +kernel⟩
def k_G_unionOf : mm_K := (⟨"GodWeathers", "unionOf", "(J)I"⟩, prog_1_method_51_code, 4, some .int)
theorem ok_G_unionOf : mm_ok k_G_unionOf 1 := ⟨mm_in (mm_m5 (List.mem_of_getElem? (i := 79) rfl)) rfl, mm_in (mm_m1 (List.mem_of_getElem? (i := 1) rfl)) rfl, by decide +kernel, ⟨by decide +kernel, by decide +kernel⟩, Nat.le_of_ble_eq_true rfl, by decide +kernel⟩
def k_G_fewestDays : mm_K := (⟨"GodWeathers", "fewestDays", "(JI)I"⟩, prog_1_method_52_code, 6, some .int)
theorem ok_G_fewestDays : mm_ok k_G_fewestDays 2 := ⟨mm_in (mm_m5 (List.mem_of_getElem? (i := 83) rfl)) rfl, mm_in (mm_m1 (List.mem_of_getElem? (i := 1) rfl)) rfl, by decide +kernel, ⟨by decide +kernel, by decide +kernel⟩, Nat.le_of_ble_eq_true rfl, by decide +kernel⟩
def k_G_oneDayMore : mm_K := (⟨"GodWeathers", "oneDayMore", "(JJ)J"⟩, prog_1_method_53_code, 8, some .long)
theorem ok_G_oneDayMore : mm_ok k_G_oneDayMore 2 := ⟨mm_in (mm_m5 (List.mem_of_getElem? (i := 86) rfl)) rfl, mm_in (mm_m1 (List.mem_of_getElem? (i := 1) rfl)) rfl, by decide +kernel, ⟨by decide +kernel, by decide +kernel⟩, Nat.le_of_ble_eq_true rfl, by decide +kernel⟩
def k_M_init : mm_K := (⟨"GodWeathersModel", "<init>", "()V"⟩, prog_13_method_1_code, 1, none)
theorem ok_M_init : mm_ok k_M_init 0 := ⟨mm_in (mm_m5 (List.mem_of_getElem? (i := 169) rfl)) rfl, mm_in (mm_m1 (List.mem_of_getElem? (i := 11) rfl)) rfl, by decide +kernel, ⟨by decide +kernel, by decide +kernel⟩, Nat.le_of_ble_eq_true rfl, by decide +kernel⟩
def k_M_in : mm_K := (⟨"GodWeathersModel", "in", "(III)Z"⟩, prog_13_method_3_code, 3, some .boolean)
theorem ok_M_in : mm_ok k_M_in 3 := ⟨mm_in (mm_m6 (List.mem_of_getElem? (i := 100) rfl)) rfl, mm_in (mm_m1 (List.mem_of_getElem? (i := 11) rfl)) rfl, by decide +kernel, ⟨by decide +kernel, by decide +kernel⟩, Nat.le_of_ble_eq_true rfl, by decide +kernel⟩
def k_M_has : mm_K := (⟨"GodWeathersModel", "has", "(II)Z"⟩, prog_13_method_4_code, 2, some .boolean)
theorem ok_M_has : mm_ok k_M_has 2 := ⟨mm_in (mm_m7 (List.mem_of_getElem? (i := 23) rfl)) rfl, mm_in (mm_m1 (List.mem_of_getElem? (i := 11) rfl)) rfl, by decide +kernel, ⟨by decide +kernel, by decide +kernel⟩, Nat.le_of_ble_eq_true rfl, by decide +kernel⟩
def k_M_greater : mm_K := (⟨"GodWeathersModel", "greater", "(II)I"⟩, prog_13_method_5_code, 2, some .int)
theorem ok_M_greater : mm_ok k_M_greater 2 := ⟨mm_in (mm_m6 (List.mem_of_getElem? (i := 173) rfl)) rfl, mm_in (mm_m1 (List.mem_of_getElem? (i := 11) rfl)) rfl, by decide +kernel, ⟨by decide +kernel, by decide +kernel⟩, Nat.le_of_ble_eq_true rfl, by decide +kernel⟩
def k_M_lesser : mm_K := (⟨"GodWeathersModel", "lesser", "(II)I"⟩, prog_13_method_6_code, 2, some .int)
theorem ok_M_lesser : mm_ok k_M_lesser 2 := ⟨mm_in (mm_m7 (List.mem_of_getElem? (i := 200) rfl)) rfl, mm_in (mm_m1 (List.mem_of_getElem? (i := 11) rfl)) rfl, by decide +kernel, ⟨by decide +kernel, by decide +kernel⟩, Nat.le_of_ble_eq_true rfl, by decide +kernel⟩
def k_M_ones : mm_K := (⟨"GodWeathersModel", "ones", "(I)I"⟩, prog_13_method_7_code, 3, some .int)
theorem ok_M_ones : mm_ok k_M_ones 1 := ⟨mm_in (mm_m7 (List.mem_of_getElem? (i := 66) rfl)) rfl, mm_in (mm_m1 (List.mem_of_getElem? (i := 11) rfl)) rfl, by decide +kernel, ⟨by decide +kernel, by decide +kernel⟩, Nat.le_of_ble_eq_true rfl, by decide +kernel⟩
def k_M_copyRow : mm_K := (⟨"GodWeathersModel", "copyRow", "([IIII)V"⟩, prog_13_method_8_code, 5, none)
theorem ok_M_copyRow : mm_ok k_M_copyRow 4 := ⟨mm_in (mm_m8 (List.mem_of_getElem? (i := 136) rfl)) rfl, mm_in (mm_m1 (List.mem_of_getElem? (i := 11) rfl)) rfl, by decide +kernel, ⟨by decide +kernel, by decide +kernel⟩, Nat.le_of_ble_eq_true rfl, by decide +kernel⟩
def k_M_copyAll : mm_K := (⟨"GodWeathersModel", "copyAll", "(II)V"⟩, prog_13_method_9_code, 4, none)
theorem ok_M_copyAll : mm_ok k_M_copyAll 2 := ⟨mm_in (mm_m8 (List.mem_of_getElem? (i := 133) rfl)) rfl, mm_in (mm_m1 (List.mem_of_getElem? (i := 11) rfl)) rfl, by decide +kernel, ⟨by decide +kernel, by decide +kernel⟩, Nat.le_of_ble_eq_true rfl, by decide +kernel⟩
def k_M_is : mm_K := (⟨"GodWeathersModel", "is", "(II)Z"⟩, prog_13_method_10_code, 3, some .boolean)
theorem ok_M_is : mm_ok k_M_is 2 := ⟨mm_in (mm_m6 (List.mem_of_getElem? (i := 108) rfl)) rfl, mm_in (mm_m1 (List.mem_of_getElem? (i := 11) rfl)) rfl, by decide +kernel, ⟨by decide +kernel, by decide +kernel⟩, Nat.le_of_ble_eq_true rfl, by decide +kernel⟩
def k_M_feed : mm_K := (⟨"GodWeathersModel", "feed", "(IIIII)I"⟩, prog_13_method_11_code, 6, some .int)
theorem ok_M_feed : mm_ok k_M_feed 5 := ⟨mm_in (mm_m6 (List.mem_of_getElem? (i := 89) rfl)) rfl, mm_in (mm_m1 (List.mem_of_getElem? (i := 11) rfl)) rfl, by decide +kernel, ⟨by decide +kernel, by decide +kernel⟩, Nat.le_of_ble_eq_true rfl, by decide +kernel⟩
def k_M_four : mm_K := (⟨"GodWeathersModel", "four", "(I)V"⟩, prog_13_method_12_code, 3, none)
theorem ok_M_four : mm_ok k_M_four 1 := ⟨mm_in (mm_m6 (List.mem_of_getElem? (i := 93) rfl)) rfl, mm_in (mm_m1 (List.mem_of_getElem? (i := 11) rfl)) rfl, by decide +kernel, ⟨by decide +kernel, by decide +kernel⟩, Nat.le_of_ble_eq_true rfl, by decide +kernel⟩
def k_M_end : mm_K := (⟨"GodWeathersModel", "end", "(I)I"⟩, prog_13_method_13_code, 2, some .int)
theorem ok_M_end : mm_ok k_M_end 1 := ⟨mm_in (mm_m6 (List.mem_of_getElem? (i := 97) rfl)) rfl, mm_in (mm_m1 (List.mem_of_getElem? (i := 11) rfl)) rfl, by decide +kernel, ⟨by decide +kernel, by decide +kernel⟩, Nat.le_of_ble_eq_true rfl, by decide +kernel⟩
def k_M_see : mm_K := (⟨"GodWeathersModel", "see", "()I"⟩, prog_13_method_14_code, 1, some .int)
theorem ok_M_see : mm_ok k_M_see 0 := ⟨mm_in (mm_m6 (List.mem_of_getElem? (i := 120) rfl)) rfl, mm_in (mm_m1 (List.mem_of_getElem? (i := 11) rfl)) rfl, by decide +kernel, ⟨by decide +kernel, by decide +kernel⟩, Nat.le_of_ble_eq_true rfl, by decide +kernel⟩
def k_M_token : mm_K := (⟨"GodWeathersModel", "token", "()V"⟩, prog_13_method_15_code, 3, none)
theorem ok_M_token : mm_ok k_M_token 0 := ⟨mm_in (mm_m6 (List.mem_of_getElem? (i := 116) rfl)) rfl, mm_in (mm_m1 (List.mem_of_getElem? (i := 11) rfl)) rfl, by decide +kernel, ⟨by decide +kernel, by decide +kernel⟩, Nat.le_of_ble_eq_true rfl, by decide +kernel⟩
def k_M_fails : mm_K := (⟨"GodWeathersModel", "fails", "()Z"⟩, prog_13_method_16_code, 1, some .boolean)
theorem ok_M_fails : mm_ok k_M_fails 0 := ⟨mm_in (mm_m6 (List.mem_of_getElem? (i := 150) rfl)) rfl, mm_in (mm_m1 (List.mem_of_getElem? (i := 11) rfl)) rfl, by decide +kernel, ⟨by decide +kernel, by decide +kernel⟩, Nat.le_of_ble_eq_true rfl, by decide +kernel⟩
def k_M_later : mm_K := (⟨"GodWeathersModel", "later", "(II)V"⟩, prog_13_method_17_code, 3, none)
theorem ok_M_later : mm_ok k_M_later 2 := ⟨mm_in (mm_m6 (List.mem_of_getElem? (i := 138) rfl)) rfl, mm_in (mm_m1 (List.mem_of_getElem? (i := 11) rfl)) rfl, by decide +kernel, ⟨by decide +kernel, by decide +kernel⟩, Nat.le_of_ble_eq_true rfl, by decide +kernel⟩
def k_M_takeNew : mm_K := (⟨"GodWeathersModel", "takeNew", "(IIIZ)Z"⟩, prog_13_method_18_code, 7, some .boolean)
theorem ok_M_takeNew : mm_ok k_M_takeNew 4 := ⟨mm_in (mm_m6 (List.mem_of_getElem? (i := 146) rfl)) rfl, mm_in (mm_m1 (List.mem_of_getElem? (i := 11) rfl)) rfl, by decide +kernel, ⟨by decide +kernel, by decide +kernel⟩, Nat.le_of_ble_eq_true rfl, by decide +kernel⟩
def k_M_take : mm_K := (⟨"GodWeathersModel", "take", "(III)Z"⟩, prog_13_method_19_code, 4, some .boolean)
theorem ok_M_take : mm_ok k_M_take 3 := ⟨mm_in (mm_m6 (List.mem_of_getElem? (i := 158) rfl)) rfl, mm_in (mm_m1 (List.mem_of_getElem? (i := 11) rfl)) rfl, by decide +kernel, ⟨by decide +kernel, by decide +kernel⟩, Nat.le_of_ble_eq_true rfl, by decide +kernel⟩
def k_M_full : mm_K := (⟨"GodWeathersModel", "full", "(III)V"⟩, prog_13_method_20_code, 4, none)
theorem ok_M_full : mm_ok k_M_full 3 := ⟨mm_in (mm_m6 (List.mem_of_getElem? (i := 134) rfl)) rfl, mm_in (mm_m1 (List.mem_of_getElem? (i := 11) rfl)) rfl, by decide +kernel, ⟨by decide +kernel, by decide +kernel⟩, Nat.le_of_ble_eq_true rfl, by decide +kernel⟩
def k_M_childLine : mm_K := (⟨"GodWeathersModel", "childLine", "()Z"⟩, prog_13_method_21_code, 3, some .boolean)
theorem ok_M_childLine : mm_ok k_M_childLine 0 := ⟨mm_in (mm_m6 (List.mem_of_getElem? (i := 142) rfl)) rfl, mm_in (mm_m1 (List.mem_of_getElem? (i := 11) rfl)) rfl, by decide +kernel, ⟨by decide +kernel, by decide +kernel⟩, Nat.le_of_ble_eq_true rfl, by decide +kernel⟩
def k_M_workLine : mm_K := (⟨"GodWeathersModel", "workLine", "()Z"⟩, prog_13_method_22_code, 2, some .boolean)
theorem ok_M_workLine : mm_ok k_M_workLine 0 := ⟨mm_in (mm_m6 (List.mem_of_getElem? (i := 154) rfl)) rfl, mm_in (mm_m1 (List.mem_of_getElem? (i := 11) rfl)) rfl, by decide +kernel, ⟨by decide +kernel, by decide +kernel⟩, Nat.le_of_ble_eq_true rfl, by decide +kernel⟩
def k_M_opposeLine : mm_K := (⟨"GodWeathersModel", "opposeLine", "()Z"⟩, prog_13_method_23_code, 2, some .boolean)
theorem ok_M_opposeLine : mm_ok k_M_opposeLine 0 := ⟨mm_in (mm_m6 (List.mem_of_getElem? (i := 166) rfl)) rfl, mm_in (mm_m1 (List.mem_of_getElem? (i := 11) rfl)) rfl, by decide +kernel, ⟨by decide +kernel, by decide +kernel⟩, Nat.le_of_ble_eq_true rfl, by decide +kernel⟩
def k_M_needsLine : mm_K := (⟨"GodWeathersModel", "needsLine", "()Z"⟩, prog_13_method_24_code, 1, some .boolean)
theorem ok_M_needsLine : mm_ok k_M_needsLine 0 := ⟨mm_in (mm_m6 (List.mem_of_getElem? (i := 170) rfl)) rfl, mm_in (mm_m1 (List.mem_of_getElem? (i := 11) rfl)) rfl, by decide +kernel, ⟨by decide +kernel, by decide +kernel⟩, Nat.le_of_ble_eq_true rfl, by decide +kernel⟩
def k_M_coastLine : mm_K := (⟨"GodWeathersModel", "coastLine", "(JI)Z"⟩, prog_13_method_25_code, 4, some .boolean)
theorem ok_M_coastLine : mm_ok k_M_coastLine 2 := ⟨mm_in (mm_m6 (List.mem_of_getElem? (i := 128) rfl)) rfl, mm_in (mm_m1 (List.mem_of_getElem? (i := 11) rfl)) rfl, by decide +kernel, ⟨by decide +kernel, by decide +kernel⟩, Nat.le_of_ble_eq_true rfl, by decide +kernel⟩
def k_M_keepRow : mm_K := (⟨"GodWeathersModel", "keepRow", "(II)V"⟩, prog_13_method_26_code, 5, none)
theorem ok_M_keepRow : mm_ok k_M_keepRow 2 := ⟨mm_in (mm_m6 (List.mem_of_getElem? (i := 186) rfl)) rfl, mm_in (mm_m1 (List.mem_of_getElem? (i := 11) rfl)) rfl, by decide +kernel, ⟨by decide +kernel, by decide +kernel⟩, Nat.le_of_ble_eq_true rfl, by decide +kernel⟩
def k_M_yearLine : mm_K := (⟨"GodWeathersModel", "yearLine", "(JI)Z"⟩, prog_13_method_27_code, 5, some .boolean)
theorem ok_M_yearLine : mm_ok k_M_yearLine 2 := ⟨mm_in (mm_m6 (List.mem_of_getElem? (i := 177) rfl)) rfl, mm_in (mm_m1 (List.mem_of_getElem? (i := 11) rfl)) rfl, by decide +kernel, ⟨by decide +kernel, by decide +kernel⟩, Nat.le_of_ble_eq_true rfl, by decide +kernel⟩
def k_M_logLine : mm_K := (⟨"GodWeathersModel", "logLine", "(JI)Z"⟩, prog_13_method_28_code, 4, some .boolean)
theorem ok_M_logLine : mm_ok k_M_logLine 2 := ⟨mm_in (mm_m6 (List.mem_of_getElem? (i := 190) rfl)) rfl, mm_in (mm_m1 (List.mem_of_getElem? (i := 11) rfl)) rfl, by decide +kernel, ⟨by decide +kernel, by decide +kernel⟩, Nat.le_of_ble_eq_true rfl, by decide +kernel⟩
def k_M_lines : mm_K := (⟨"GodWeathersModel", "lines", "(I)Z"⟩, prog_13_method_29_code, 6, some .boolean)
theorem ok_M_lines : mm_ok k_M_lines 1 := ⟨mm_in (mm_m6 (List.mem_of_getElem? (i := 124) rfl)) rfl, mm_in (mm_m1 (List.mem_of_getElem? (i := 11) rfl)) rfl, by decide +kernel, ⟨by decide +kernel, by decide +kernel⟩, Nat.le_of_ble_eq_true rfl, by decide +kernel⟩
def k_M_readText : mm_K := (⟨"GodWeathersModel", "readText", "(I)Z"⟩, prog_13_method_30_code, 3, some .boolean)
theorem ok_M_readText : mm_ok k_M_readText 1 := ⟨mm_in (mm_m6 (List.mem_of_getElem? (i := 112) rfl)) rfl, mm_in (mm_m1 (List.mem_of_getElem? (i := 11) rfl)) rfl, by decide +kernel, ⟨by decide +kernel, by decide +kernel⟩, Nat.le_of_ble_eq_true rfl, by decide +kernel⟩
def k_M_store : mm_K := (⟨"GodWeathersModel", "store", "([III)V"⟩, prog_13_method_31_code, 5, none)
theorem ok_M_store : mm_ok k_M_store 3 := ⟨mm_in (mm_m6 (List.mem_of_getElem? (i := 196) rfl)) rfl, mm_in (mm_m1 (List.mem_of_getElem? (i := 11) rfl)) rfl, by decide +kernel, ⟨by decide +kernel, by decide +kernel⟩, Nat.le_of_ble_eq_true rfl, by decide +kernel⟩
def k_M_text : mm_K := (⟨"GodWeathersModel", "text", "(II)I"⟩, prog_13_method_32_code, 4, some .int)
theorem ok_M_text : mm_ok k_M_text 2 := ⟨mm_in (mm_m6 (List.mem_of_getElem? (i := 104) rfl)) rfl, mm_in (mm_m1 (List.mem_of_getElem? (i := 11) rfl)) rfl, by decide +kernel, ⟨by decide +kernel, by decide +kernel⟩, Nat.le_of_ble_eq_true rfl, by decide +kernel⟩
def k_M_fault : mm_K := (⟨"GodWeathersModel", "fault", "(I)I"⟩, prog_13_method_33_code, 2, some .int)
theorem ok_M_fault : mm_ok k_M_fault 1 := ⟨mm_in (mm_m6 (List.mem_of_getElem? (i := 200) rfl)) rfl, mm_in (mm_m1 (List.mem_of_getElem? (i := 11) rfl)) rfl, by decide +kernel, ⟨by decide +kernel, by decide +kernel⟩, Nat.le_of_ble_eq_true rfl, by decide +kernel⟩
def k_M_of : mm_K := (⟨"GodWeathersModel", "of", "(I)I"⟩, prog_13_method_34_code, 2, some .int)
theorem ok_M_of : mm_ok k_M_of 1 := ⟨mm_in (mm_m6 (List.mem_of_getElem? (i := 212) rfl)) rfl, mm_in (mm_m1 (List.mem_of_getElem? (i := 11) rfl)) rfl, by decide +kernel, ⟨by decide +kernel, by decide +kernel⟩, Nat.le_of_ble_eq_true rfl, by decide +kernel⟩
def k_M_hand : mm_K := (⟨"GodWeathersModel", "hand", "(I)Z"⟩, prog_13_method_35_code, 3, some .boolean)
theorem ok_M_hand : mm_ok k_M_hand 1 := ⟨mm_in (mm_m6 (List.mem_of_getElem? (i := 208) rfl)) rfl, mm_in (mm_m1 (List.mem_of_getElem? (i := 11) rfl)) rfl, by decide +kernel, ⟨by decide +kernel, by decide +kernel⟩, Nat.le_of_ble_eq_true rfl, by decide +kernel⟩
def k_M_isChild : mm_K := (⟨"GodWeathersModel", "isChild", "(I)Z"⟩, prog_13_method_36_code, 2, some .boolean)
theorem ok_M_isChild : mm_ok k_M_isChild 1 := ⟨mm_in (mm_m7 (List.mem_of_getElem? (i := 20) rfl)) rfl, mm_in (mm_m1 (List.mem_of_getElem? (i := 11) rfl)) rfl, by decide +kernel, ⟨by decide +kernel, by decide +kernel⟩, Nat.le_of_ble_eq_true rfl, by decide +kernel⟩
def k_M_isWork : mm_K := (⟨"GodWeathersModel", "isWork", "(I)Z"⟩, prog_13_method_37_code, 2, some .boolean)
theorem ok_M_isWork : mm_ok k_M_isWork 1 := ⟨mm_in (mm_m7 (List.mem_of_getElem? (i := 35) rfl)) rfl, mm_in (mm_m1 (List.mem_of_getElem? (i := 11) rfl)) rfl, by decide +kernel, ⟨by decide +kernel, by decide +kernel⟩, Nat.le_of_ble_eq_true rfl, by decide +kernel⟩
def k_M_gods : mm_K := (⟨"GodWeathersModel", "gods", "(I)I"⟩, prog_13_method_38_code, 2, some .int)
theorem ok_M_gods : mm_ok k_M_gods 1 := ⟨mm_in (mm_m6 (List.mem_of_getElem? (i := 216) rfl)) rfl, mm_in (mm_m1 (List.mem_of_getElem? (i := 11) rfl)) rfl, by decide +kernel, ⟨by decide +kernel, by decide +kernel⟩, Nat.le_of_ble_eq_true rfl, by decide +kernel⟩
def k_M_comes : mm_K := (⟨"GodWeathersModel", "comes", "(II)I"⟩, prog_13_method_39_code, 3, some .int)
theorem ok_M_comes : mm_ok k_M_comes 2 := ⟨mm_in (mm_m7 (List.mem_of_getElem? (i := 27) rfl)) rfl, mm_in (mm_m1 (List.mem_of_getElem? (i := 11) rfl)) rfl, by decide +kernel, ⟨by decide +kernel, by decide +kernel⟩, Nat.le_of_ble_eq_true rfl, by decide +kernel⟩
def k_M_readyBy : mm_K := (⟨"GodWeathersModel", "readyBy", "(I)I"⟩, prog_13_method_40_code, 4, some .int)
theorem ok_M_readyBy : mm_ok k_M_readyBy 1 := ⟨mm_in (mm_m7 (List.mem_of_getElem? (i := 39) rfl)) rfl, mm_in (mm_m1 (List.mem_of_getElem? (i := 11) rfl)) rfl, by decide +kernel, ⟨by decide +kernel, by decide +kernel⟩, Nat.le_of_ble_eq_true rfl, by decide +kernel⟩
def k_M_worthOf : mm_K := (⟨"GodWeathersModel", "worthOf", "(I)I"⟩, prog_13_method_41_code, 4, some .int)
theorem ok_M_worthOf : mm_ok k_M_worthOf 1 := ⟨mm_in (mm_m7 (List.mem_of_getElem? (i := 55) rfl)) rfl, mm_in (mm_m1 (List.mem_of_getElem? (i := 11) rfl)) rfl, by decide +kernel, ⟨by decide +kernel, by decide +kernel⟩, Nat.le_of_ble_eq_true rfl, by decide +kernel⟩
def k_M_coast : mm_K := (⟨"GodWeathersModel", "coast", "(II)I"⟩, prog_13_method_42_code, 4, some .int)
theorem ok_M_coast : mm_ok k_M_coast 2 := ⟨mm_in (mm_m6 (List.mem_of_getElem? (i := 204) rfl)) rfl, mm_in (mm_m1 (List.mem_of_getElem? (i := 11) rfl)) rfl, by decide +kernel, ⟨by decide +kernel, by decide +kernel⟩, Nat.le_of_ble_eq_true rfl, by decide +kernel⟩
def k_M_deeds : mm_K := (⟨"GodWeathersModel", "deeds", "()I"⟩, prog_13_method_43_code, 1, some .int)
theorem ok_M_deeds : mm_ok k_M_deeds 0 := ⟨mm_in (mm_m6 (List.mem_of_getElem? (i := 228) rfl)) rfl, mm_in (mm_m1 (List.mem_of_getElem? (i := 11) rfl)) rfl, by decide +kernel, ⟨by decide +kernel, by decide +kernel⟩, Nat.le_of_ble_eq_true rfl, by decide +kernel⟩
def k_M_deedOf : mm_K := (⟨"GodWeathersModel", "deedOf", "(II)I"⟩, prog_13_method_44_code, 3, some .int)
theorem ok_M_deedOf : mm_ok k_M_deedOf 2 := ⟨mm_in (mm_m6 (List.mem_of_getElem? (i := 232) rfl)) rfl, mm_in (mm_m1 (List.mem_of_getElem? (i := 11) rfl)) rfl, by decide +kernel, ⟨by decide +kernel, by decide +kernel⟩, Nat.le_of_ble_eq_true rfl, by decide +kernel⟩
def k_M_hasYear : mm_K := (⟨"GodWeathersModel", "hasYear", "(I)Z"⟩, prog_13_method_45_code, 2, some .boolean)
theorem ok_M_hasYear : mm_ok k_M_hasYear 1 := ⟨mm_in (mm_m6 (List.mem_of_getElem? (i := 224) rfl)) rfl, mm_in (mm_m1 (List.mem_of_getElem? (i := 11) rfl)) rfl, by decide +kernel, ⟨by decide +kernel, by decide +kernel⟩, Nat.le_of_ble_eq_true rfl, by decide +kernel⟩
def k_M_deed : mm_K := (⟨"GodWeathersModel", "deed", "(III)I"⟩, prog_13_method_46_code, 4, some .int)
theorem ok_M_deed : mm_ok k_M_deed 3 := ⟨mm_in (mm_m6 (List.mem_of_getElem? (i := 220) rfl)) rfl, mm_in (mm_m1 (List.mem_of_getElem? (i := 11) rfl)) rfl, by decide +kernel, ⟨by decide +kernel, by decide +kernel⟩, Nat.le_of_ble_eq_true rfl, by decide +kernel⟩
def k_M_goesOn : mm_K := (⟨"GodWeathersModel", "goesOn", "()V"⟩, prog_13_method_47_code, 4, none)
theorem ok_M_goesOn : mm_ok k_M_goesOn 0 := ⟨mm_in (mm_m7 (List.mem_of_getElem? (i := 43) rfl)) rfl, mm_in (mm_m1 (List.mem_of_getElem? (i := 11) rfl)) rfl, by decide +kernel, ⟨by decide +kernel, by decide +kernel⟩, Nat.le_of_ble_eq_true rfl, by decide +kernel⟩
def k_M_asking : mm_K := (⟨"GodWeathersModel", "asking", "(II)Z"⟩, prog_13_method_48_code, 3, some .boolean)
theorem ok_M_asking : mm_ok k_M_asking 2 := ⟨mm_in (mm_m7 (List.mem_of_getElem? (i := 16) rfl)) rfl, mm_in (mm_m1 (List.mem_of_getElem? (i := 11) rfl)) rfl, by decide +kernel, ⟨by decide +kernel, by decide +kernel⟩, Nat.le_of_ble_eq_true rfl, by decide +kernel⟩
def k_M_thanking : mm_K := (⟨"GodWeathersModel", "thanking", "(II)Z"⟩, prog_13_method_49_code, 3, some .boolean)
theorem ok_M_thanking : mm_ok k_M_thanking 2 := ⟨mm_in (mm_m7 (List.mem_of_getElem? (i := 31) rfl)) rfl, mm_in (mm_m1 (List.mem_of_getElem? (i := 11) rfl)) rfl, by decide +kernel, ⟨by decide +kernel, by decide +kernel⟩, Nat.le_of_ble_eq_true rfl, by decide +kernel⟩
def k_M_does : mm_K := (⟨"GodWeathersModel", "does", "(III)Z"⟩, prog_13_method_50_code, 4, some .boolean)
theorem ok_M_does : mm_ok k_M_does 3 := ⟨mm_in (mm_m7 (List.mem_of_getElem? (i := 12) rfl)) rfl, mm_in (mm_m1 (List.mem_of_getElem? (i := 11) rfl)) rfl, by decide +kernel, ⟨by decide +kernel, by decide +kernel⟩, Nat.le_of_ble_eq_true rfl, by decide +kernel⟩
def k_M_doesDeed : mm_K := (⟨"GodWeathersModel", "doesDeed", "(I)Z"⟩, prog_13_method_51_code, 2, some .boolean)
theorem ok_M_doesDeed : mm_ok k_M_doesDeed 1 := ⟨mm_in (mm_m7 (List.mem_of_getElem? (i := 8) rfl)) rfl, mm_in (mm_m1 (List.mem_of_getElem? (i := 11) rfl)) rfl, by decide +kernel, ⟨by decide +kernel, by decide +kernel⟩, Nat.le_of_ble_eq_true rfl, by decide +kernel⟩
def k_M_play : mm_K := (⟨"GodWeathersModel", "play", "(I)I"⟩, prog_13_method_52_code, 3, some .int)
theorem ok_M_play : mm_ok k_M_play 1 := ⟨mm_in (mm_m7 (List.mem_of_getElem? (i := 4) rfl)) rfl, mm_in (mm_m1 (List.mem_of_getElem? (i := 11) rfl)) rfl, by decide +kernel, ⟨by decide +kernel, by decide +kernel⟩, Nat.le_of_ble_eq_true rfl, by decide +kernel⟩
def k_M_layAll : mm_K := (⟨"GodWeathersModel", "layAll", "(II)Z"⟩, prog_13_method_53_code, 3, some .boolean)
theorem ok_M_layAll : mm_ok k_M_layAll 2 := ⟨mm_in (mm_m7 (List.mem_of_getElem? (i := 0) rfl)) rfl, mm_in (mm_m1 (List.mem_of_getElem? (i := 11) rfl)) rfl, by decide +kernel, ⟨by decide +kernel, by decide +kernel⟩, Nat.le_of_ble_eq_true rfl, by decide +kernel⟩
def k_M_till : mm_K := (⟨"GodWeathersModel", "till", "(II)I"⟩, prog_13_method_54_code, 3, some .int)
theorem ok_M_till : mm_ok k_M_till 2 := ⟨mm_in (mm_m6 (List.mem_of_getElem? (i := 236) rfl)) rfl, mm_in (mm_m1 (List.mem_of_getElem? (i := 11) rfl)) rfl, by decide +kernel, ⟨by decide +kernel, by decide +kernel⟩, Nat.le_of_ble_eq_true rfl, by decide +kernel⟩
def k_M_ofState : mm_K := (⟨"GodWeathersModel", "ofState", "(I)I"⟩, prog_13_method_55_code, 3, some .int)
theorem ok_M_ofState : mm_ok k_M_ofState 1 := ⟨mm_in (mm_m7 (List.mem_of_getElem? (i := 51) rfl)) rfl, mm_in (mm_m1 (List.mem_of_getElem? (i := 11) rfl)) rfl, by decide +kernel, ⟨by decide +kernel, by decide +kernel⟩, Nat.le_of_ble_eq_true rfl, by decide +kernel⟩
def k_M_state : mm_K := (⟨"GodWeathersModel", "state", "(IIII)I"⟩, prog_13_method_56_code, 5, some .int)
theorem ok_M_state : mm_ok k_M_state 4 := ⟨mm_in (mm_m7 (List.mem_of_getElem? (i := 47) rfl)) rfl, mm_in (mm_m1 (List.mem_of_getElem? (i := 11) rfl)) rfl, by decide +kernel, ⟨by decide +kernel, by decide +kernel⟩, Nat.le_of_ble_eq_true rfl, by decide +kernel⟩
def k_M_kth : mm_K := (⟨"GodWeathersModel", "kth", "(II)I"⟩, prog_13_method_57_code, 5, some .int)
theorem ok_M_kth : mm_ok k_M_kth 2 := ⟨mm_in (mm_m7 (List.mem_of_getElem? (i := 74) rfl)) rfl, mm_in (mm_m1 (List.mem_of_getElem? (i := 11) rfl)) rfl, by decide +kernel, ⟨by decide +kernel, by decide +kernel⟩, Nat.le_of_ble_eq_true rfl, by decide +kernel⟩
def k_M_callBy : mm_K := (⟨"GodWeathersModel", "callBy", "(IIII)Z"⟩, prog_13_method_58_code, 5, some .boolean)
theorem ok_M_callBy : mm_ok k_M_callBy 4 := ⟨mm_in (mm_m7 (List.mem_of_getElem? (i := 70) rfl)) rfl, mm_in (mm_m1 (List.mem_of_getElem? (i := 11) rfl)) rfl, by decide +kernel, ⟨by decide +kernel, by decide +kernel⟩, Nat.le_of_ble_eq_true rfl, by decide +kernel⟩
def k_M_findCalls : mm_K := (⟨"GodWeathersModel", "findCalls", "(I)V"⟩, prog_13_method_59_code, 7, none)
theorem ok_M_findCalls : mm_ok k_M_findCalls 1 := ⟨mm_in (mm_m7 (List.mem_of_getElem? (i := 63) rfl)) rfl, mm_in (mm_m1 (List.mem_of_getElem? (i := 11) rfl)) rfl, by decide +kernel, ⟨by decide +kernel, by decide +kernel⟩, Nat.le_of_ble_eq_true rfl, by decide +kernel⟩
def k_M_call : mm_K := (⟨"GodWeathersModel", "call", "(III)I"⟩, prog_13_method_60_code, 8, some .int)
theorem ok_M_call : mm_ok k_M_call 3 := ⟨mm_in (mm_m7 (List.mem_of_getElem? (i := 59) rfl)) rfl, mm_in (mm_m1 (List.mem_of_getElem? (i := 11) rfl)) rfl, by decide +kernel, ⟨by decide +kernel, by decide +kernel⟩, Nat.le_of_ble_eq_true rfl, by decide +kernel⟩
def k_M_fours : mm_K := (⟨"GodWeathersModel", "fours", "(I)I"⟩, prog_13_method_61_code, 1, some .int)
theorem ok_M_fours : mm_ok k_M_fours 1 := ⟨mm_in (mm_m7 (List.mem_of_getElem? (i := 85) rfl)) rfl, mm_in (mm_m1 (List.mem_of_getElem? (i := 11) rfl)) rfl, by decide +kernel, ⟨by decide +kernel, by decide +kernel⟩, Nat.le_of_ble_eq_true rfl, by decide +kernel⟩
def k_M_whom : mm_K := (⟨"GodWeathersModel", "whom", "(II)I"⟩, prog_13_method_62_code, 4, some .int)
theorem ok_M_whom : mm_ok k_M_whom 2 := ⟨mm_in (mm_m7 (List.mem_of_getElem? (i := 93) rfl)) rfl, mm_in (mm_m1 (List.mem_of_getElem? (i := 11) rfl)) rfl, by decide +kernel, ⟨by decide +kernel, by decide +kernel⟩, Nat.le_of_ble_eq_true rfl, by decide +kernel⟩
def k_M_hereBy : mm_K := (⟨"GodWeathersModel", "hereBy", "(II)I"⟩, prog_13_method_63_code, 6, some .int)
theorem ok_M_hereBy : mm_ok k_M_hereBy 2 := ⟨mm_in (mm_m7 (List.mem_of_getElem? (i := 89) rfl)) rfl, mm_in (mm_m1 (List.mem_of_getElem? (i := 11) rfl)) rfl, by decide +kernel, ⟨by decide +kernel, by decide +kernel⟩, Nat.le_of_ble_eq_true rfl, by decide +kernel⟩
def k_M_feastOf : mm_K := (⟨"GodWeathersModel", "feastOf", "(IZ)I"⟩, prog_13_method_64_code, 7, some .int)
theorem ok_M_feastOf : mm_ok k_M_feastOf 2 := ⟨mm_in (mm_m7 (List.mem_of_getElem? (i := 82) rfl)) rfl, mm_in (mm_m1 (List.mem_of_getElem? (i := 11) rfl)) rfl, by decide +kernel, ⟨by decide +kernel, by decide +kernel⟩, Nat.le_of_ble_eq_true rfl, by decide +kernel⟩
def k_M_feast : mm_K := (⟨"GodWeathersModel", "feast", "(II)I"⟩, prog_13_method_65_code, 4, some .int)
theorem ok_M_feast : mm_ok k_M_feast 2 := ⟨mm_in (mm_m7 (List.mem_of_getElem? (i := 78) rfl)) rfl, mm_in (mm_m1 (List.mem_of_getElem? (i := 11) rfl)) rfl, by decide +kernel, ⟨by decide +kernel, by decide +kernel⟩, Nat.le_of_ble_eq_true rfl, by decide +kernel⟩
def k_M_common : mm_K := (⟨"GodWeathersModel", "common", "(JJ)J"⟩, prog_13_method_66_code, 10, some .long)
theorem ok_M_common : mm_ok k_M_common 2 := ⟨mm_in (mm_m7 (List.mem_of_getElem? (i := 109) rfl)) rfl, mm_in (mm_m1 (List.mem_of_getElem? (i := 11) rfl)) rfl, by decide +kernel, ⟨by decide +kernel, by decide +kernel⟩, Nat.le_of_ble_eq_true rfl, by decide +kernel⟩
def k_M_part : mm_K := (⟨"GodWeathersModel", "part", "(JJZ)J"⟩, prog_13_method_67_code, 5, some .long)
theorem ok_M_part : mm_ok k_M_part 3 := ⟨mm_in (mm_m7 (List.mem_of_getElem? (i := 106) rfl)) rfl, mm_in (mm_m1 (List.mem_of_getElem? (i := 11) rfl)) rfl, by decide +kernel, ⟨by decide +kernel, by decide +kernel⟩, Nat.le_of_ble_eq_true rfl, by decide +kernel⟩
def k_M_chancesOf : mm_K := (⟨"GodWeathersModel", "chancesOf", "(I)V"⟩, prog_13_method_68_code, 3, none)
theorem ok_M_chancesOf : mm_ok k_M_chancesOf 1 := ⟨mm_in (mm_m7 (List.mem_of_getElem? (i := 102) rfl)) rfl, mm_in (mm_m1 (List.mem_of_getElem? (i := 11) rfl)) rfl, by decide +kernel, ⟨by decide +kernel, by decide +kernel⟩, Nat.le_of_ble_eq_true rfl, by decide +kernel⟩
def k_M_odds : mm_K := (⟨"GodWeathersModel", "odds", "(IIIZ)J"⟩, prog_13_method_69_code, 5, some .long)
theorem ok_M_odds : mm_ok k_M_odds 4 := ⟨mm_in (mm_m7 (List.mem_of_getElem? (i := 97) rfl)) rfl, mm_in (mm_m1 (List.mem_of_getElem? (i := 11) rfl)) rfl, by decide +kernel, ⟨by decide +kernel, by decide +kernel⟩, Nat.le_of_ble_eq_true rfl, by decide +kernel⟩
def k_M_allGods : mm_K := (⟨"GodWeathersModel", "allGods", "(I)I"⟩, prog_13_method_70_code, 4, some .int)
theorem ok_M_allGods : mm_ok k_M_allGods 1 := ⟨mm_in (mm_m7 (List.mem_of_getElem? (i := 117) rfl)) rfl, mm_in (mm_m1 (List.mem_of_getElem? (i := 11) rfl)) rfl, by decide +kernel, ⟨by decide +kernel, by decide +kernel⟩, Nat.le_of_ble_eq_true rfl, by decide +kernel⟩
def k_M_village : mm_K := (⟨"GodWeathersModel", "village", "(IZ)I"⟩, prog_13_method_71_code, 7, some .int)
theorem ok_M_village : mm_ok k_M_village 2 := ⟨mm_in (mm_m7 (List.mem_of_getElem? (i := 113) rfl)) rfl, mm_in (mm_m1 (List.mem_of_getElem? (i := 11) rfl)) rfl, by decide +kernel, ⟨by decide +kernel, by decide +kernel⟩, Nat.le_of_ble_eq_true rfl, by decide +kernel⟩
def k_M_shares : mm_K := (⟨"GodWeathersModel", "shares", "(II)Z"⟩, prog_13_method_72_code, 3, some .boolean)
theorem ok_M_shares : mm_ok k_M_shares 2 := ⟨mm_in (mm_m7 (List.mem_of_getElem? (i := 133) rfl)) rfl, mm_in (mm_m1 (List.mem_of_getElem? (i := 11) rfl)) rfl, by decide +kernel, ⟨by decide +kernel, by decide +kernel⟩, Nat.le_of_ble_eq_true rfl, by decide +kernel⟩
def k_M_isRow : mm_K := (⟨"GodWeathersModel", "isRow", "(III)Z"⟩, prog_13_method_73_code, 8, some .boolean)
theorem ok_M_isRow : mm_ok k_M_isRow 3 := ⟨mm_in (mm_m7 (List.mem_of_getElem? (i := 129) rfl)) rfl, mm_in (mm_m1 (List.mem_of_getElem? (i := 11) rfl)) rfl, by decide +kernel, ⟨by decide +kernel, by decide +kernel⟩, Nat.le_of_ble_eq_true rfl, by decide +kernel⟩
def k_M_boatsOf : mm_K := (⟨"GodWeathersModel", "boatsOf", "(I)I"⟩, prog_13_method_74_code, 5, some .int)
theorem ok_M_boatsOf : mm_ok k_M_boatsOf 1 := ⟨mm_in (mm_m7 (List.mem_of_getElem? (i := 125) rfl)) rfl, mm_in (mm_m1 (List.mem_of_getElem? (i := 11) rfl)) rfl, by decide +kernel, ⟨by decide +kernel, by decide +kernel⟩, Nat.le_of_ble_eq_true rfl, by decide +kernel⟩
def k_M_boats : mm_K := (⟨"GodWeathersModel", "boats", "(II)I"⟩, prog_13_method_75_code, 3, some .int)
theorem ok_M_boats : mm_ok k_M_boats 2 := ⟨mm_in (mm_m7 (List.mem_of_getElem? (i := 121) rfl)) rfl, mm_in (mm_m1 (List.mem_of_getElem? (i := 11) rfl)) rfl, by decide +kernel, ⟨by decide +kernel, by decide +kernel⟩, Nat.le_of_ble_eq_true rfl, by decide +kernel⟩
def k_M_choiceOf : mm_K := (⟨"GodWeathersModel", "choiceOf", "(I)I"⟩, prog_13_method_76_code, 2, some .int)
theorem ok_M_choiceOf : mm_ok k_M_choiceOf 1 := ⟨mm_in (mm_m7 (List.mem_of_getElem? (i := 148) rfl)) rfl, mm_in (mm_m1 (List.mem_of_getElem? (i := 11) rfl)) rfl, by decide +kernel, ⟨by decide +kernel, by decide +kernel⟩, Nat.le_of_ble_eq_true rfl, by decide +kernel⟩
def k_M_rowsOf : mm_K := (⟨"GodWeathersModel", "rowsOf", "(I)I"⟩, prog_13_method_77_code, 3, some .int)
theorem ok_M_rowsOf : mm_ok k_M_rowsOf 1 := ⟨mm_in (mm_m7 (List.mem_of_getElem? (i := 140) rfl)) rfl, mm_in (mm_m1 (List.mem_of_getElem? (i := 11) rfl)) rfl, by decide +kernel, ⟨by decide +kernel, by decide +kernel⟩, Nat.le_of_ble_eq_true rfl, by decide +kernel⟩
def k_M_endOf : mm_K := (⟨"GodWeathersModel", "endOf", "(II)I"⟩, prog_13_method_78_code, 9, some .int)
theorem ok_M_endOf : mm_ok k_M_endOf 2 := ⟨mm_in (mm_m7 (List.mem_of_getElem? (i := 144) rfl)) rfl, mm_in (mm_m1 (List.mem_of_getElem? (i := 11) rfl)) rfl, by decide +kernel, ⟨by decide +kernel, by decide +kernel⟩, Nat.le_of_ble_eq_true rfl, by decide +kernel⟩
def k_M_fold : mm_K := (⟨"GodWeathersModel", "fold", "(IZ)I"⟩, prog_13_method_79_code, 6, some .int)
theorem ok_M_fold : mm_ok k_M_fold 2 := ⟨mm_in (mm_m7 (List.mem_of_getElem? (i := 152) rfl)) rfl, mm_in (mm_m1 (List.mem_of_getElem? (i := 11) rfl)) rfl, by decide +kernel, ⟨by decide +kernel, by decide +kernel⟩, Nat.le_of_ble_eq_true rfl, by decide +kernel⟩
def k_M_headland : mm_K := (⟨"GodWeathersModel", "headland", "(IIZ)I"⟩, prog_13_method_80_code, 7, some .int)
theorem ok_M_headland : mm_ok k_M_headland 3 := ⟨mm_in (mm_m7 (List.mem_of_getElem? (i := 137) rfl)) rfl, mm_in (mm_m1 (List.mem_of_getElem? (i := 11) rfl)) rfl, by decide +kernel, ⟨by decide +kernel, by decide +kernel⟩, Nat.le_of_ble_eq_true rfl, by decide +kernel⟩
def k_M_waits : mm_K := (⟨"GodWeathersModel", "waits", "(IIII)J"⟩, prog_13_method_81_code, 13, some .long)
theorem ok_M_waits : mm_ok k_M_waits 4 := ⟨mm_in (mm_m7 (List.mem_of_getElem? (i := 156) rfl)) rfl, mm_in (mm_m1 (List.mem_of_getElem? (i := 11) rfl)) rfl, by decide +kernel, ⟨by decide +kernel, by decide +kernel⟩, Nat.le_of_ble_eq_true rfl, by decide +kernel⟩
def k_M_factOf : mm_K := (⟨"GodWeathersModel", "factOf", "(II)I"⟩, prog_13_method_82_code, 3, some .int)
theorem ok_M_factOf : mm_ok k_M_factOf 2 := ⟨mm_in (mm_m7 (List.mem_of_getElem? (i := 172) rfl)) rfl, mm_in (mm_m1 (List.mem_of_getElem? (i := 11) rfl)) rfl, by decide +kernel, ⟨by decide +kernel, by decide +kernel⟩, Nat.le_of_ble_eq_true rfl, by decide +kernel⟩
def k_M_facts : mm_K := (⟨"GodWeathersModel", "facts", "()I"⟩, prog_13_method_83_code, 1, some .int)
theorem ok_M_facts : mm_ok k_M_facts 0 := ⟨mm_in (mm_m7 (List.mem_of_getElem? (i := 168) rfl)) rfl, mm_in (mm_m1 (List.mem_of_getElem? (i := 11) rfl)) rfl, by decide +kernel, ⟨by decide +kernel, by decide +kernel⟩, Nat.le_of_ble_eq_true rfl, by decide +kernel⟩
def k_M_hasLog : mm_K := (⟨"GodWeathersModel", "hasLog", "(I)Z"⟩, prog_13_method_84_code, 2, some .boolean)
theorem ok_M_hasLog : mm_ok k_M_hasLog 1 := ⟨mm_in (mm_m7 (List.mem_of_getElem? (i := 164) rfl)) rfl, mm_in (mm_m1 (List.mem_of_getElem? (i := 11) rfl)) rfl, by decide +kernel, ⟨by decide +kernel, by decide +kernel⟩, Nat.le_of_ble_eq_true rfl, by decide +kernel⟩
def k_M_fact : mm_K := (⟨"GodWeathersModel", "fact", "(III)I"⟩, prog_13_method_85_code, 4, some .int)
theorem ok_M_fact : mm_ok k_M_fact 3 := ⟨mm_in (mm_m7 (List.mem_of_getElem? (i := 160) rfl)) rfl, mm_in (mm_m1 (List.mem_of_getElem? (i := 11) rfl)) rfl, by decide +kernel, ⟨by decide +kernel, by decide +kernel⟩, Nat.le_of_ble_eq_true rfl, by decide +kernel⟩
def k_M_isFit : mm_K := (⟨"GodWeathersModel", "isFit", "(I)Z"⟩, prog_13_method_86_code, 4, some .boolean)
theorem ok_M_isFit : mm_ok k_M_isFit 1 := ⟨mm_in (mm_m7 (List.mem_of_getElem? (i := 184) rfl)) rfl, mm_in (mm_m1 (List.mem_of_getElem? (i := 11) rfl)) rfl, by decide +kernel, ⟨by decide +kernel, by decide +kernel⟩, Nat.le_of_ble_eq_true rfl, by decide +kernel⟩
def k_M_layLog : mm_K := (⟨"GodWeathersModel", "layLog", "(I)Z"⟩, prog_13_method_87_code, 3, some .boolean)
theorem ok_M_layLog : mm_ok k_M_layLog 1 := ⟨mm_in (mm_m7 (List.mem_of_getElem? (i := 180) rfl)) rfl, mm_in (mm_m1 (List.mem_of_getElem? (i := 11) rfl)) rfl, by decide +kernel, ⟨by decide +kernel, by decide +kernel⟩, Nat.le_of_ble_eq_true rfl, by decide +kernel⟩
def k_M_manyHave : mm_K := (⟨"GodWeathersModel", "manyHave", "(I)I"⟩, prog_13_method_88_code, 4, some .int)
theorem ok_M_manyHave : mm_ok k_M_manyHave 1 := ⟨mm_in (mm_m7 (List.mem_of_getElem? (i := 197) rfl)) rfl, mm_in (mm_m1 (List.mem_of_getElem? (i := 11) rfl)) rfl, by decide +kernel, ⟨by decide +kernel, by decide +kernel⟩, Nat.le_of_ble_eq_true rfl, by decide +kernel⟩
def k_M_sure : mm_K := (⟨"GodWeathersModel", "sure", "()I"⟩, prog_13_method_89_code, 3, some .int)
theorem ok_M_sure : mm_ok k_M_sure 0 := ⟨mm_in (mm_m7 (List.mem_of_getElem? (i := 188) rfl)) rfl, mm_in (mm_m1 (List.mem_of_getElem? (i := 11) rfl)) rfl, by decide +kernel, ⟨by decide +kernel, by decide +kernel⟩, Nat.le_of_ble_eq_true rfl, by decide +kernel⟩
def k_M_next : mm_K := (⟨"GodWeathersModel", "next", "()I"⟩, prog_13_method_90_code, 5, some .int)
theorem ok_M_next : mm_ok k_M_next 0 := ⟨mm_in (mm_m7 (List.mem_of_getElem? (i := 192) rfl)) rfl, mm_in (mm_m1 (List.mem_of_getElem? (i := 11) rfl)) rfl, by decide +kernel, ⟨by decide +kernel, by decide +kernel⟩, Nat.le_of_ble_eq_true rfl, by decide +kernel⟩
def k_M_fits : mm_K := (⟨"GodWeathersModel", "fits", "(II)I"⟩, prog_13_method_91_code, 3, some .int)
theorem ok_M_fits : mm_ok k_M_fits 2 := ⟨mm_in (mm_m7 (List.mem_of_getElem? (i := 176) rfl)) rfl, mm_in (mm_m1 (List.mem_of_getElem? (i := 11) rfl)) rfl, by decide +kernel, ⟨by decide +kernel, by decide +kernel⟩, Nat.le_of_ble_eq_true rfl, by decide +kernel⟩
def k_M_whose : mm_K := (⟨"GodWeathersModel", "whose", "(II)I"⟩, prog_13_method_92_code, 5, some .int)
theorem ok_M_whose : mm_ok k_M_whose 2 := ⟨mm_in (mm_m7 (List.mem_of_getElem? (i := 204) rfl)) rfl, mm_in (mm_m1 (List.mem_of_getElem? (i := 11) rfl)) rfl, by decide +kernel, ⟨by decide +kernel, by decide +kernel⟩, Nat.le_of_ble_eq_true rfl, by decide +kernel⟩
def k_M_draw : mm_K := (⟨"GodWeathersModel", "draw", "(I)I"⟩, prog_13_method_93_code, 2, some .int)
theorem ok_M_draw : mm_ok k_M_draw 1 := ⟨mm_in (mm_m7 (List.mem_of_getElem? (i := 216) rfl)) rfl, mm_in (mm_m1 (List.mem_of_getElem? (i := 11) rfl)) rfl, by decide +kernel, ⟨by decide +kernel, by decide +kernel⟩, Nat.le_of_ble_eq_true rfl, by decide +kernel⟩
def k_M_drawDeed : mm_K := (⟨"GodWeathersModel", "drawDeed", "()V"⟩, prog_13_method_94_code, 3, none)
theorem ok_M_drawDeed : mm_ok k_M_drawDeed 0 := ⟨mm_in (mm_m7 (List.mem_of_getElem? (i := 212) rfl)) rfl, mm_in (mm_m1 (List.mem_of_getElem? (i := 11) rfl)) rfl, by decide +kernel, ⟨by decide +kernel, by decide +kernel⟩, Nat.le_of_ble_eq_true rfl, by decide +kernel⟩
def k_M_drawn : mm_K := (⟨"GodWeathersModel", "drawn", "(IIII)I"⟩, prog_13_method_95_code, 6, some .int)
theorem ok_M_drawn : mm_ok k_M_drawn 4 := ⟨mm_in (mm_m7 (List.mem_of_getElem? (i := 208) rfl)) rfl, mm_in (mm_m1 (List.mem_of_getElem? (i := 11) rfl)) rfl, by decide +kernel, ⟨by decide +kernel, by decide +kernel⟩, Nat.le_of_ble_eq_true rfl, by decide +kernel⟩
def k_M_kin : mm_K := (⟨"GodWeathersModel", "kin", "(III)I"⟩, prog_13_method_96_code, 4, some .int)
theorem ok_M_kin : mm_ok k_M_kin 3 := ⟨mm_in (mm_m7 (List.mem_of_getElem? (i := 221) rfl)) rfl, mm_in (mm_m1 (List.mem_of_getElem? (i := 11) rfl)) rfl, by decide +kernel, ⟨by decide +kernel, by decide +kernel⟩, Nat.le_of_ble_eq_true rfl, by decide +kernel⟩
def k_M_clanOf : mm_K := (⟨"GodWeathersModel", "clanOf", "(I)I"⟩, prog_13_method_97_code, 6, some .int)
theorem ok_M_clanOf : mm_ok k_M_clanOf 1 := ⟨mm_in (mm_m7 (List.mem_of_getElem? (i := 229) rfl)) rfl, mm_in (mm_m1 (List.mem_of_getElem? (i := 11) rfl)) rfl, by decide +kernel, ⟨by decide +kernel, by decide +kernel⟩, Nat.le_of_ble_eq_true rfl, by decide +kernel⟩
def k_M_clans : mm_K := (⟨"GodWeathersModel", "clans", "()I"⟩, prog_13_method_98_code, 3, some .int)
theorem ok_M_clans : mm_ok k_M_clans 0 := ⟨mm_in (mm_m7 (List.mem_of_getElem? (i := 233) rfl)) rfl, mm_in (mm_m1 (List.mem_of_getElem? (i := 11) rfl)) rfl, by decide +kernel, ⟨by decide +kernel, by decide +kernel⟩, Nat.le_of_ble_eq_true rfl, by decide +kernel⟩
def k_M_twins : mm_K := (⟨"GodWeathersModel", "twins", "()I"⟩, prog_13_method_99_code, 4, some .int)
theorem ok_M_twins : mm_ok k_M_twins 0 := ⟨mm_in (mm_m7 (List.mem_of_getElem? (i := 237) rfl)) rfl, mm_in (mm_m1 (List.mem_of_getElem? (i := 11) rfl)) rfl, by decide +kernel, ⟨by decide +kernel, by decide +kernel⟩, Nat.le_of_ble_eq_true rfl, by decide +kernel⟩
def k_M_raft : mm_K := (⟨"GodWeathersModel", "raft", "()I"⟩, prog_13_method_100_code, 6, some .int)
theorem ok_M_raft : mm_ok k_M_raft 0 := ⟨mm_in (mm_m8 (List.mem_of_getElem? (i := 1) rfl)) rfl, mm_in (mm_m1 (List.mem_of_getElem? (i := 11) rfl)) rfl, by decide +kernel, ⟨by decide +kernel, by decide +kernel⟩, Nat.le_of_ble_eq_true rfl, by decide +kernel⟩
def k_M_couples : mm_K := (⟨"GodWeathersModel", "couples", "()I"⟩, prog_13_method_101_code, 6, some .int)
theorem ok_M_couples : mm_ok k_M_couples 0 := ⟨mm_in (mm_m8 (List.mem_of_getElem? (i := 5) rfl)) rfl, mm_in (mm_m1 (List.mem_of_getElem? (i := 11) rfl)) rfl, by decide +kernel, ⟨by decide +kernel, by decide +kernel⟩, Nat.le_of_ble_eq_true rfl, by decide +kernel⟩
def k_M_rivals : mm_K := (⟨"GodWeathersModel", "rivals", "()I"⟩, prog_13_method_102_code, 3, some .int)
theorem ok_M_rivals : mm_ok k_M_rivals 0 := ⟨mm_in (mm_m8 (List.mem_of_getElem? (i := 9) rfl)) rfl, mm_in (mm_m1 (List.mem_of_getElem? (i := 11) rfl)) rfl, by decide +kernel, ⟨by decide +kernel, by decide +kernel⟩, Nat.le_of_ble_eq_true rfl, by decide +kernel⟩
def k_M_calm : mm_K := (⟨"GodWeathersModel", "calm", "()I"⟩, prog_13_method_103_code, 5, some .int)
theorem ok_M_calm : mm_ok k_M_calm 0 := ⟨mm_in (mm_m8 (List.mem_of_getElem? (i := 13) rfl)) rfl, mm_in (mm_m1 (List.mem_of_getElem? (i := 11) rfl)) rfl, by decide +kernel, ⟨by decide +kernel, by decide +kernel⟩, Nat.le_of_ble_eq_true rfl, by decide +kernel⟩
def k_M_clan : mm_K := (⟨"GodWeathersModel", "clan", "(II)I"⟩, prog_13_method_104_code, 3, some .int)
theorem ok_M_clan : mm_ok k_M_clan 2 := ⟨mm_in (mm_m7 (List.mem_of_getElem? (i := 225) rfl)) rfl, mm_in (mm_m1 (List.mem_of_getElem? (i := 11) rfl)) rfl, by decide +kernel, ⟨by decide +kernel, by decide +kernel⟩, Nat.le_of_ble_eq_true rfl, by decide +kernel⟩
def k_M_dearest : mm_K := (⟨"GodWeathersModel", "dearest", "()I"⟩, prog_13_method_105_code, 3, some .int)
theorem ok_M_dearest : mm_ok k_M_dearest 0 := ⟨mm_in (mm_m8 (List.mem_of_getElem? (i := 21) rfl)) rfl, mm_in (mm_m1 (List.mem_of_getElem? (i := 11) rfl)) rfl, by decide +kernel, ⟨by decide +kernel, by decide +kernel⟩, Nat.le_of_ble_eq_true rfl, by decide +kernel⟩
def k_M_lone : mm_K := (⟨"GodWeathersModel", "lone", "(IZ)I"⟩, prog_13_method_106_code, 6, some .int)
theorem ok_M_lone : mm_ok k_M_lone 2 := ⟨mm_in (mm_m8 (List.mem_of_getElem? (i := 17) rfl)) rfl, mm_in (mm_m1 (List.mem_of_getElem? (i := 11) rfl)) rfl, by decide +kernel, ⟨by decide +kernel, by decide +kernel⟩, Nat.le_of_ble_eq_true rfl, by decide +kernel⟩
def k_M_near : mm_K := (⟨"GodWeathersModel", "near", "(II)I"⟩, prog_13_method_107_code, 5, some .int)
theorem ok_M_near : mm_ok k_M_near 2 := ⟨mm_in (mm_m8 (List.mem_of_getElem? (i := 25) rfl)) rfl, mm_in (mm_m1 (List.mem_of_getElem? (i := 11) rfl)) rfl, by decide +kernel, ⟨by decide +kernel, by decide +kernel⟩, Nat.le_of_ble_eq_true rfl, by decide +kernel⟩
def k_M_rungBy : mm_K := (⟨"GodWeathersModel", "rungBy", "(III)I"⟩, prog_13_method_108_code, 5, some .int)
theorem ok_M_rungBy : mm_ok k_M_rungBy 3 := ⟨mm_in (mm_m8 (List.mem_of_getElem? (i := 37) rfl)) rfl, mm_in (mm_m1 (List.mem_of_getElem? (i := 11) rfl)) rfl, by decide +kernel, ⟨by decide +kernel, by decide +kernel⟩, Nat.le_of_ble_eq_true rfl, by decide +kernel⟩
def k_M_findRungs : mm_K := (⟨"GodWeathersModel", "findRungs", "()V"⟩, prog_13_method_109_code, 5, none)
theorem ok_M_findRungs : mm_ok k_M_findRungs 0 := ⟨mm_in (mm_m8 (List.mem_of_getElem? (i := 33) rfl)) rfl, mm_in (mm_m1 (List.mem_of_getElem? (i := 11) rfl)) rfl, by decide +kernel, ⟨by decide +kernel, by decide +kernel⟩, Nat.le_of_ble_eq_true rfl, by decide +kernel⟩
def k_M_ladder : mm_K := (⟨"GodWeathersModel", "ladder", "(II)I"⟩, prog_13_method_110_code, 8, some .int)
theorem ok_M_ladder : mm_ok k_M_ladder 2 := ⟨mm_in (mm_m8 (List.mem_of_getElem? (i := 29) rfl)) rfl, mm_in (mm_m1 (List.mem_of_getElem? (i := 11) rfl)) rfl, by decide +kernel, ⟨by decide +kernel, by decide +kernel⟩, Nat.le_of_ble_eq_true rfl, by decide +kernel⟩
def k_M_storm : mm_K := (⟨"GodWeathersModel", "storm", "(IIZ)J"⟩, prog_13_method_111_code, 10, some .long)
theorem ok_M_storm : mm_ok k_M_storm 3 := ⟨mm_in (mm_m8 (List.mem_of_getElem? (i := 41) rfl)) rfl, mm_in (mm_m1 (List.mem_of_getElem? (i := 11) rfl)) rfl, by decide +kernel, ⟨by decide +kernel, by decide +kernel⟩, Nat.le_of_ble_eq_true rfl, by decide +kernel⟩
def k_M_lack : mm_K := (⟨"GodWeathersModel", "lack", "(II)I"⟩, prog_13_method_112_code, 3, some .int)
theorem ok_M_lack : mm_ok k_M_lack 2 := ⟨mm_in (mm_m8 (List.mem_of_getElem? (i := 45) rfl)) rfl, mm_in (mm_m1 (List.mem_of_getElem? (i := 11) rfl)) rfl, by decide +kernel, ⟨by decide +kernel, by decide +kernel⟩, Nat.le_of_ble_eq_true rfl, by decide +kernel⟩
def k_M_busy : mm_K := (⟨"GodWeathersModel", "busy", "(II)I"⟩, prog_13_method_113_code, 4, some .int)
theorem ok_M_busy : mm_ok k_M_busy 2 := ⟨mm_in (mm_m8 (List.mem_of_getElem? (i := 49) rfl)) rfl, mm_in (mm_m1 (List.mem_of_getElem? (i := 11) rfl)) rfl, by decide +kernel, ⟨by decide +kernel, by decide +kernel⟩, Nat.le_of_ble_eq_true rfl, by decide +kernel⟩
def k_M_allAsk : mm_K := (⟨"GodWeathersModel", "allAsk", "(I)Z"⟩, prog_13_method_114_code, 4, some .boolean)
theorem ok_M_allAsk : mm_ok k_M_allAsk 1 := ⟨mm_in (mm_m8 (List.mem_of_getElem? (i := 57) rfl)) rfl, mm_in (mm_m1 (List.mem_of_getElem? (i := 11) rfl)) rfl, by decide +kernel, ⟨by decide +kernel, by decide +kernel⟩, Nat.le_of_ble_eq_true rfl, by decide +kernel⟩
def k_M_lots : mm_K := (⟨"GodWeathersModel", "lots", "(IIZ)J"⟩, prog_13_method_115_code, 9, some .long)
theorem ok_M_lots : mm_ok k_M_lots 3 := ⟨mm_in (mm_m8 (List.mem_of_getElem? (i := 53) rfl)) rfl, mm_in (mm_m1 (List.mem_of_getElem? (i := 11) rfl)) rfl, by decide +kernel, ⟨by decide +kernel, by decide +kernel⟩, Nat.le_of_ble_eq_true rfl, by decide +kernel⟩
def k_M_heir : mm_K := (⟨"GodWeathersModel", "heir", "(IZ)I"⟩, prog_13_method_116_code, 7, some .int)
theorem ok_M_heir : mm_ok k_M_heir 2 := ⟨mm_in (mm_m8 (List.mem_of_getElem? (i := 61) rfl)) rfl, mm_in (mm_m1 (List.mem_of_getElem? (i := 11) rfl)) rfl, by decide +kernel, ⟨by decide +kernel, by decide +kernel⟩, Nat.le_of_ble_eq_true rfl, by decide +kernel⟩
def k_M_doable : mm_K := (⟨"GodWeathersModel", "doable", "()I"⟩, prog_13_method_117_code, 4, some .int)
theorem ok_M_doable : mm_ok k_M_doable 0 := ⟨mm_in (mm_m8 (List.mem_of_getElem? (i := 69) rfl)) rfl, mm_in (mm_m1 (List.mem_of_getElem? (i := 11) rfl)) rfl, by decide +kernel, ⟨by decide +kernel, by decide +kernel⟩, Nat.le_of_ble_eq_true rfl, by decide +kernel⟩
def k_M_planDays : mm_K := (⟨"GodWeathersModel", "planDays", "(I)I"⟩, prog_13_method_118_code, 4, some .int)
theorem ok_M_planDays : mm_ok k_M_planDays 1 := ⟨mm_in (mm_m8 (List.mem_of_getElem? (i := 73) rfl)) rfl, mm_in (mm_m1 (List.mem_of_getElem? (i := 11) rfl)) rfl, by decide +kernel, ⟨by decide +kernel, by decide +kernel⟩, Nat.le_of_ble_eq_true rfl, by decide +kernel⟩
def k_M_plan : mm_K := (⟨"GodWeathersModel", "plan", "(IZ)I"⟩, prog_13_method_119_code, 4, some .int)
theorem ok_M_plan : mm_ok k_M_plan 2 := ⟨mm_in (mm_m8 (List.mem_of_getElem? (i := 65) rfl)) rfl, mm_in (mm_m1 (List.mem_of_getElem? (i := 11) rfl)) rfl, by decide +kernel, ⟨by decide +kernel, by decide +kernel⟩, Nat.le_of_ble_eq_true rfl, by decide +kernel⟩
def k_M_levy : mm_K := (⟨"GodWeathersModel", "levy", "(II)I"⟩, prog_13_method_120_code, 9, some .int)
theorem ok_M_levy : mm_ok k_M_levy 2 := ⟨mm_in (mm_m8 (List.mem_of_getElem? (i := 77) rfl)) rfl, mm_in (mm_m1 (List.mem_of_getElem? (i := 11) rfl)) rfl, by decide +kernel, ⟨by decide +kernel, by decide +kernel⟩, Nat.le_of_ble_eq_true rfl, by decide +kernel⟩
def k_M_ready : mm_K := (⟨"GodWeathersModel", "ready", "(II)I"⟩, prog_13_method_121_code, 3, some .int)
theorem ok_M_ready : mm_ok k_M_ready 2 := ⟨mm_in (mm_m8 (List.mem_of_getElem? (i := 81) rfl)) rfl, mm_in (mm_m1 (List.mem_of_getElem? (i := 11) rfl)) rfl, by decide +kernel, ⟨by decide +kernel, by decide +kernel⟩, Nat.le_of_ble_eq_true rfl, by decide +kernel⟩
def k_M_hope : mm_K := (⟨"GodWeathersModel", "hope", "(IIZ)J"⟩, prog_13_method_122_code, 4, some .long)
theorem ok_M_hope : mm_ok k_M_hope 3 := ⟨mm_in (mm_m8 (List.mem_of_getElem? (i := 85) rfl)) rfl, mm_in (mm_m1 (List.mem_of_getElem? (i := 11) rfl)) rfl, by decide +kernel, ⟨by decide +kernel, by decide +kernel⟩, Nat.le_of_ble_eq_true rfl, by decide +kernel⟩
def k_M_pair : mm_K := (⟨"GodWeathersModel", "pair", "(IZ)I"⟩, prog_13_method_123_code, 8, some .int)
theorem ok_M_pair : mm_ok k_M_pair 2 := ⟨mm_in (mm_m8 (List.mem_of_getElem? (i := 89) rfl)) rfl, mm_in (mm_m1 (List.mem_of_getElem? (i := 11) rfl)) rfl, by decide +kernel, ⟨by decide +kernel, by decide +kernel⟩, Nat.le_of_ble_eq_true rfl, by decide +kernel⟩
def k_M_seat : mm_K := (⟨"GodWeathersModel", "seat", "(III)I"⟩, prog_13_method_124_code, 4, some .int)
theorem ok_M_seat : mm_ok k_M_seat 3 := ⟨mm_in (mm_m8 (List.mem_of_getElem? (i := 93) rfl)) rfl, mm_in (mm_m1 (List.mem_of_getElem? (i := 11) rfl)) rfl, by decide +kernel, ⟨by decide +kernel, by decide +kernel⟩, Nat.le_of_ble_eq_true rfl, by decide +kernel⟩
def k_M_tide : mm_K := (⟨"GodWeathersModel", "tide", "(IIZ)I"⟩, prog_13_method_125_code, 7, some .int)
theorem ok_M_tide : mm_ok k_M_tide 3 := ⟨mm_in (mm_m8 (List.mem_of_getElem? (i := 97) rfl)) rfl, mm_in (mm_m1 (List.mem_of_getElem? (i := 11) rfl)) rfl, by decide +kernel, ⟨by decide +kernel, by decide +kernel⟩, Nat.le_of_ble_eq_true rfl, by decide +kernel⟩
def k_M_first : mm_K := (⟨"GodWeathersModel", "first", "(IIZ)I"⟩, prog_13_method_126_code, 7, some .int)
theorem ok_M_first : mm_ok k_M_first 3 := ⟨mm_in (mm_m8 (List.mem_of_getElem? (i := 101) rfl)) rfl, mm_in (mm_m1 (List.mem_of_getElem? (i := 11) rfl)) rfl, by decide +kernel, ⟨by decide +kernel, by decide +kernel⟩, Nat.le_of_ble_eq_true rfl, by decide +kernel⟩
def k_M_kept : mm_K := (⟨"GodWeathersModel", "kept", "(III)I"⟩, prog_13_method_127_code, 6, some .int)
theorem ok_M_kept : mm_ok k_M_kept 3 := ⟨mm_in (mm_m8 (List.mem_of_getElem? (i := 105) rfl)) rfl, mm_in (mm_m1 (List.mem_of_getElem? (i := 11) rfl)) rfl, by decide +kernel, ⟨by decide +kernel, by decide +kernel⟩, Nat.le_of_ble_eq_true rfl, by decide +kernel⟩
def k_M_firstCross : mm_K := (⟨"GodWeathersModel", "firstCross", "()I"⟩, prog_13_method_128_code, 2, some .int)
theorem ok_M_firstCross : mm_ok k_M_firstCross 0 := ⟨mm_in (mm_m8 (List.mem_of_getElem? (i := 113) rfl)) rfl, mm_in (mm_m1 (List.mem_of_getElem? (i := 11) rfl)) rfl, by decide +kernel, ⟨by decide +kernel, by decide +kernel⟩, Nat.le_of_ble_eq_true rfl, by decide +kernel⟩
def k_M_eager : mm_K := (⟨"GodWeathersModel", "eager", "()I"⟩, prog_13_method_129_code, 3, some .int)
theorem ok_M_eager : mm_ok k_M_eager 0 := ⟨mm_in (mm_m8 (List.mem_of_getElem? (i := 117) rfl)) rfl, mm_in (mm_m1 (List.mem_of_getElem? (i := 11) rfl)) rfl, by decide +kernel, ⟨by decide +kernel, by decide +kernel⟩, Nat.le_of_ble_eq_true rfl, by decide +kernel⟩
def k_M_after : mm_K := (⟨"GodWeathersModel", "after", "(III)I"⟩, prog_13_method_130_code, 10, some .int)
theorem ok_M_after : mm_ok k_M_after 3 := ⟨mm_in (mm_m8 (List.mem_of_getElem? (i := 109) rfl)) rfl, mm_in (mm_m1 (List.mem_of_getElem? (i := 11) rfl)) rfl, by decide +kernel, ⟨by decide +kernel, by decide +kernel⟩, Nat.le_of_ble_eq_true rfl, by decide +kernel⟩
def k_M_share : mm_K := (⟨"GodWeathersModel", "share", "(IIZ)J"⟩, prog_13_method_131_code, 4, some .long)
theorem ok_M_share : mm_ok k_M_share 3 := ⟨mm_in (mm_m8 (List.mem_of_getElem? (i := 121) rfl)) rfl, mm_in (mm_m1 (List.mem_of_getElem? (i := 11) rfl)) rfl, by decide +kernel, ⟨by decide +kernel, by decide +kernel⟩, Nat.le_of_ble_eq_true rfl, by decide +kernel⟩
def k_M_count : mm_K := (⟨"GodWeathersModel", "count", "(I)I"⟩, prog_13_method_132_code, 2, some .int)
theorem ok_M_count : mm_ok k_M_count 1 := ⟨mm_in (mm_m8 (List.mem_of_getElem? (i := 125) rfl)) rfl, mm_in (mm_m1 (List.mem_of_getElem? (i := 11) rfl)) rfl, by decide +kernel, ⟨by decide +kernel, by decide +kernel⟩, Nat.le_of_ble_eq_true rfl, by decide +kernel⟩
def k_M_image : mm_K := (⟨"GodWeathersModel", "image", "(I)Z"⟩, prog_13_method_133_code, 2, some .boolean)
theorem ok_M_image : mm_ok k_M_image 1 := ⟨mm_in (mm_m8 (List.mem_of_getElem? (i := 129) rfl)) rfl, mm_in (mm_m1 (List.mem_of_getElem? (i := 11) rfl)) rfl, by decide +kernel, ⟨by decide +kernel, by decide +kernel⟩, Nat.le_of_ble_eq_true rfl, by decide +kernel⟩
def k_M_again : mm_K := (⟨"GodWeathersModel", "again", "(I)Z"⟩, prog_13_method_134_code, 2, some .boolean)
theorem ok_M_again : mm_ok k_M_again 1 := ⟨mm_in (mm_m8 (List.mem_of_getElem? (i := 140) rfl)) rfl, mm_in (mm_m1 (List.mem_of_getElem? (i := 11) rfl)) rfl, by decide +kernel, ⟨by decide +kernel, by decide +kernel⟩, Nat.le_of_ble_eq_true rfl, by decide +kernel⟩
def k_Int_numberOfTrailingZeros : mm_K := (⟨"java/lang/Integer", "numberOfTrailingZeros", "(I)I"⟩, prog_14_method_48_code, 2, some .int)
theorem ok_Int_numberOfTrailingZeros : mm_ok k_Int_numberOfTrailingZeros 1 := ⟨mm_in (mm_m4 (List.mem_of_getElem? (i := 14) rfl)) rfl, mm_in (mm_m1 (List.mem_of_getElem? (i := 19) rfl)) rfl, by decide +kernel, ⟨by decide +kernel, by decide +kernel⟩, Nat.le_of_ble_eq_true rfl, by decide +kernel⟩
def k_Int_bitCount : mm_K := (⟨"java/lang/Integer", "bitCount", "(I)I"⟩, prog_14_method_49_code, 1, some .int)
theorem ok_Int_bitCount : mm_ok k_Int_bitCount 1 := ⟨mm_in (mm_m3 (List.mem_of_getElem? (i := 211) rfl)) rfl, mm_in (mm_m1 (List.mem_of_getElem? (i := 19) rfl)) rfl, by decide +kernel, ⟨by decide +kernel, by decide +kernel⟩, Nat.le_of_ble_eq_true rfl, by decide +kernel⟩
def k_Mth_max : mm_K := (⟨"java/lang/Math", "max", "(II)I"⟩, prog_15_method_65_code, 2, some .int)
def k_Mth_min : mm_K := (⟨"java/lang/Math", "min", "(II)I"⟩, prog_15_method_69_code, 2, some .int)
def k_Str_length : mm_K := (⟨"java/lang/String", "length", "()I"⟩, prog_16_method_54_code, 1, some .int)
theorem ok_Str_length : mm_ok k_Str_length 0 := ⟨mm_in (mm_m2 (List.mem_of_getElem? (i := 230) rfl)) rfl, mm_in (mm_m1 (List.mem_of_getElem? (i := 14) rfl)) rfl, by decide +kernel, ⟨by decide +kernel, by decide +kernel⟩, Nat.le_of_ble_eq_true rfl, by decide +kernel⟩
def k_Str_charAt : mm_K := (⟨"java/lang/String", "charAt", "(I)C"⟩, prog_16_method_56_code, 2, some .char)
theorem ok_Str_charAt : mm_ok k_Str_charAt 1 := ⟨mm_in (mm_m3 (List.mem_of_getElem? (i := 0) rfl)) rfl, mm_in (mm_m1 (List.mem_of_getElem? (i := 14) rfl)) rfl, by decide +kernel, ⟨by decide +kernel, by decide +kernel⟩, Nat.le_of_ble_eq_true rfl, by decide +kernel⟩
def k_Str_coder : mm_K := (⟨"java/lang/String", "coder", "()B"⟩, prog_16_method_152_code, 1, some .byte)
theorem ok_Str_coder : mm_ok k_Str_coder 0 := ⟨mm_in (mm_m2 (List.mem_of_getElem? (i := 234) rfl)) rfl, mm_in (mm_m1 (List.mem_of_getElem? (i := 14) rfl)) rfl, by decide +kernel, ⟨by decide +kernel, by decide +kernel⟩, Nat.le_of_ble_eq_true rfl, by decide +kernel⟩
def k_Str_isLatin1 : mm_K := (⟨"java/lang/String", "isLatin1", "()Z"⟩, prog_16_method_154_code, 1, some .boolean)
theorem ok_Str_isLatin1 : mm_ok k_Str_isLatin1 0 := ⟨mm_in (mm_m3 (List.mem_of_getElem? (i := 4) rfl)) rfl, mm_in (mm_m1 (List.mem_of_getElem? (i := 14) rfl)) rfl, by decide +kernel, ⟨by decide +kernel, by decide +kernel⟩, Nat.le_of_ble_eq_true rfl, by decide +kernel⟩
def k_Str_checkIndex : mm_K := (⟨"java/lang/String", "checkIndex", "(II)V"⟩, prog_16_method_155_code, 2, none)
theorem ok_Str_checkIndex : mm_ok k_Str_checkIndex 2 := ⟨mm_in (mm_m3 (List.mem_of_getElem? (i := 10) rfl)) rfl, mm_in (mm_m1 (List.mem_of_getElem? (i := 14) rfl)) rfl, by decide +kernel, ⟨by decide +kernel, by decide +kernel⟩, Nat.le_of_ble_eq_true rfl, by decide +kernel⟩
def k_Lat_charAt : mm_K := (⟨"java/lang/StringLatin1", "charAt", "([BI)C"⟩, prog_17_method_2_code, 2, some .char)
theorem ok_Lat_charAt : mm_ok k_Lat_charAt 2 := ⟨mm_in (mm_m3 (List.mem_of_getElem? (i := 7) rfl)) rfl, mm_in (mm_m1 (List.mem_of_getElem? (i := 15) rfl)) rfl, by decide +kernel, ⟨by decide +kernel, by decide +kernel⟩, Nat.le_of_ble_eq_true rfl, by decide +kernel⟩
def k_Utf_getChar : mm_K := (⟨"java/lang/StringUTF16", "getChar", "([BI)C"⟩, prog_18_method_5_code, 2, some .char)
theorem ok_Utf_getChar : mm_ok k_Utf_getChar 2 := ⟨mm_in (mm_m3 (List.mem_of_getElem? (i := 28) rfl)) rfl, mm_in (mm_m1 (List.mem_of_getElem? (i := 17) rfl)) rfl, by decide +kernel, ⟨by decide +kernel, by decide +kernel⟩, Nat.le_of_ble_eq_true rfl, by decide +kernel⟩
def k_Utf_length : mm_K := (⟨"java/lang/StringUTF16", "length", "([B)I"⟩, prog_18_method_6_code, 1, some .int)
theorem ok_Utf_length : mm_ok k_Utf_length 1 := ⟨mm_in (mm_m3 (List.mem_of_getElem? (i := 24) rfl)) rfl, mm_in (mm_m1 (List.mem_of_getElem? (i := 17) rfl)) rfl, by decide +kernel, ⟨by decide +kernel, by decide +kernel⟩, Nat.le_of_ble_eq_true rfl, by decide +kernel⟩
def k_Utf_charAt : mm_K := (⟨"java/lang/StringUTF16", "charAt", "([BI)C"⟩, prog_18_method_83_code, 2, some .char)
theorem ok_Utf_charAt : mm_ok k_Utf_charAt 2 := ⟨mm_in (mm_m3 (List.mem_of_getElem? (i := 18) rfl)) rfl, mm_in (mm_m1 (List.mem_of_getElem? (i := 17) rfl)) rfl, by decide +kernel, ⟨by decide +kernel, by decide +kernel⟩, Nat.le_of_ble_eq_true rfl, by decide +kernel⟩
def k_Utf_checkIndex : mm_K := (⟨"java/lang/StringUTF16", "checkIndex", "(I[B)V"⟩, prog_18_method_91_code, 2, none)
theorem ok_Utf_checkIndex : mm_ok k_Utf_checkIndex 2 := ⟨mm_in (mm_m3 (List.mem_of_getElem? (i := 21) rfl)) rfl, mm_in (mm_m1 (List.mem_of_getElem? (i := 17) rfl)) rfl, by decide +kernel, ⟨by decide +kernel, by decide +kernel⟩, Nat.le_of_ble_eq_true rfl, by decide +kernel⟩
def k_Arr_fillJ : mm_K := (⟨"java/util/Arrays", "fill", "([JJ)V"⟩, prog_20_method_101_code, 5, none)
theorem ok_Arr_fillJ : mm_ok k_Arr_fillJ 2 := ⟨mm_in (mm_m5 (List.mem_of_getElem? (i := 40) rfl)) rfl, mm_in (mm_m1 (List.mem_of_getElem? (i := 13) rfl)) rfl, by decide +kernel, ⟨by decide +kernel, by decide +kernel⟩, Nat.le_of_ble_eq_true rfl, by decide +kernel⟩
def k_Arr_fillI : mm_K := (⟨"java/util/Arrays", "fill", "([II)V"⟩, prog_20_method_103_code, 4, none)
theorem ok_Arr_fillI : mm_ok k_Arr_fillI 2 := ⟨mm_in (mm_m2 (List.mem_of_getElem? (i := 189) rfl)) rfl, mm_in (mm_m1 (List.mem_of_getElem? (i := 13) rfl)) rfl, by decide +kernel, ⟨by decide +kernel, by decide +kernel⟩, Nat.le_of_ble_eq_true rfl, by decide +kernel⟩
def k_Pre_checkIndex : mm_K := (⟨"jdk/internal/util/Preconditions", "checkIndex", "(IILjava/util/function/BiFunction;)I"⟩, prog_21_method_11_code, 3, some .int)
theorem ok_Pre_checkIndex : mm_ok k_Pre_checkIndex 3 := ⟨mm_in (mm_m3 (List.mem_of_getElem? (i := 15) rfl)) rfl, mm_in (mm_m1 (List.mem_of_getElem? (i := 16) rfl)) rfl, by decide +kernel, ⟨by decide +kernel, by decide +kernel⟩, Nat.le_of_ble_eq_true rfl, by decide +kernel⟩
abbrev k_law : mm_K := (x, code, 4, ret)
