/-! links of the classes (written by program) -/
theorem fl_Co_9 : Cond.fieldLink "GodWeathers$Coast" 9 (mm_F 2 0).1 (mm_F 2 0).2.1 (mm_F 2 0).2.2.1 ∈ mm_ws := mm_in (mm_m1 (List.mem_of_getElem? (i := 42) rfl)) rfl
theorem fl_Sk_68 : Cond.fieldLink "GodWeathers$Sky" 68 (mm_F 2 0).1 (mm_F 2 0).2.1 (mm_F 2 0).2.2.1 ∈ mm_ws := mm_in (mm_m1 (List.mem_of_getElem? (i := 43) rfl)) rfl
theorem fl_Re_140 : Cond.fieldLink "GodWeathers$Reader" 140 (mm_F 2 0).1 (mm_F 2 0).2.1 (mm_F 2 0).2.2.1 ∈ mm_ws := mm_in (mm_m1 (List.mem_of_getElem? (i := 44) rfl)) rfl
theorem fl_Co_15 : Cond.fieldLink "GodWeathers$Coast" 15 (mm_F 2 1).1 (mm_F 2 1).2.1 (mm_F 2 1).2.2.1 ∈ mm_ws := mm_in (mm_m1 (List.mem_of_getElem? (i := 45) rfl)) rfl
theorem fl_Re_149 : Cond.fieldLink "GodWeathers$Reader" 149 (mm_F 2 1).1 (mm_F 2 1).2.1 (mm_F 2 1).2.2.1 ∈ mm_ws := mm_in (mm_m1 (List.mem_of_getElem? (i := 46) rfl)) rfl
theorem fl_Da_151 : Cond.fieldLink "GodWeathers$Days" 151 (mm_F 2 1).1 (mm_F 2 1).2.1 (mm_F 2 1).2.2.1 ∈ mm_ws := mm_in (mm_m1 (List.mem_of_getElem? (i := 47) rfl)) rfl
theorem fl_G_305 : Cond.fieldLink "GodWeathers" 305 (mm_F 2 1).1 (mm_F 2 1).2.1 (mm_F 2 1).2.2.1 ∈ mm_ws := mm_in (mm_m1 (List.mem_of_getElem? (i := 48) rfl)) rfl
theorem fl_Co_18 : Cond.fieldLink "GodWeathers$Coast" 18 (mm_F 2 2).1 (mm_F 2 2).2.1 (mm_F 2 2).2.2.1 ∈ mm_ws := mm_in (mm_m1 (List.mem_of_getElem? (i := 49) rfl)) rfl
theorem fl_Sk_22 : Cond.fieldLink "GodWeathers$Sky" 22 (mm_F 2 2).1 (mm_F 2 2).2.1 (mm_F 2 2).2.2.1 ∈ mm_ws := mm_in (mm_m1 (List.mem_of_getElem? (i := 50) rfl)) rfl
theorem fl_Re_143 : Cond.fieldLink "GodWeathers$Reader" 143 (mm_F 2 2).1 (mm_F 2 2).2.1 (mm_F 2 2).2.2.1 ∈ mm_ws := mm_in (mm_m1 (List.mem_of_getElem? (i := 51) rfl)) rfl
theorem fl_Co_21 : Cond.fieldLink "GodWeathers$Coast" 21 (mm_F 2 3).1 (mm_F 2 3).2.1 (mm_F 2 3).2.2.1 ∈ mm_ws := mm_in (mm_m1 (List.mem_of_getElem? (i := 52) rfl)) rfl
theorem fl_Cr_9 : Cond.fieldLink "GodWeathers$Crew" 9 (mm_F 2 3).1 (mm_F 2 3).2.1 (mm_F 2 3).2.2.1 ∈ mm_ws := mm_in (mm_m1 (List.mem_of_getElem? (i := 53) rfl)) rfl
theorem fl_Bo_44 : Cond.fieldLink "GodWeathers$Boats" 44 (mm_F 2 3).1 (mm_F 2 3).2.1 (mm_F 2 3).2.2.1 ∈ mm_ws := mm_in (mm_m1 (List.mem_of_getElem? (i := 54) rfl)) rfl
theorem fl_Re_137 : Cond.fieldLink "GodWeathers$Reader" 137 (mm_F 2 3).1 (mm_F 2 3).2.1 (mm_F 2 3).2.2.1 ∈ mm_ws := mm_in (mm_m1 (List.mem_of_getElem? (i := 55) rfl)) rfl
theorem fl_G_198 : Cond.fieldLink "GodWeathers" 198 (mm_F 2 3).1 (mm_F 2 3).2.1 (mm_F 2 3).2.2.1 ∈ mm_ws := mm_in (mm_m1 (List.mem_of_getElem? (i := 56) rfl)) rfl
theorem fl_Co_24 : Cond.fieldLink "GodWeathers$Coast" 24 (mm_F 2 4).1 (mm_F 2 4).2.1 (mm_F 2 4).2.2.1 ∈ mm_ws := mm_in (mm_m1 (List.mem_of_getElem? (i := 57) rfl)) rfl
theorem fl_Re_152 : Cond.fieldLink "GodWeathers$Reader" 152 (mm_F 2 4).1 (mm_F 2 4).2.1 (mm_F 2 4).2.2.1 ∈ mm_ws := mm_in (mm_m1 (List.mem_of_getElem? (i := 58) rfl)) rfl
theorem fl_Co_27 : Cond.fieldLink "GodWeathers$Coast" 27 (mm_F 2 5).1 (mm_F 2 5).2.1 (mm_F 2 5).2.2.1 ∈ mm_ws := mm_in (mm_m1 (List.mem_of_getElem? (i := 59) rfl)) rfl
theorem fl_Re_146 : Cond.fieldLink "GodWeathers$Reader" 146 (mm_F 2 5).1 (mm_F 2 5).2.1 (mm_F 2 5).2.2.1 ∈ mm_ws := mm_in (mm_m1 (List.mem_of_getElem? (i := 60) rfl)) rfl
theorem fl_G_119 : Cond.fieldLink "GodWeathers" 119 (mm_F 2 5).1 (mm_F 2 5).2.1 (mm_F 2 5).2.2.1 ∈ mm_ws := mm_in (mm_m1 (List.mem_of_getElem? (i := 61) rfl)) rfl
theorem fl_Da_144 : Cond.fieldLink "GodWeathers$Days" 144 (mm_F 2 5).1 (mm_F 2 5).2.1 (mm_F 2 5).2.2.1 ∈ mm_ws := mm_in (mm_m1 (List.mem_of_getElem? (i := 62) rfl)) rfl
theorem fl_Bo_35 : Cond.fieldLink "GodWeathers$Boats" 35 (mm_F 2 6).1 (mm_F 2 6).2.1 (mm_F 2 6).2.2.1 ∈ mm_ws := mm_in (mm_m1 (List.mem_of_getElem? (i := 63) rfl)) rfl
theorem fl_Co_36 : Cond.fieldLink "GodWeathers$Coast" 36 (mm_F 2 6).1 (mm_F 2 6).2.1 (mm_F 2 6).2.2.1 ∈ mm_ws := mm_in (mm_m1 (List.mem_of_getElem? (i := 64) rfl)) rfl
theorem fl_Cr_21 : Cond.fieldLink "GodWeathers$Crew" 21 (mm_F 2 6).1 (mm_F 2 6).2.1 (mm_F 2 6).2.2.1 ∈ mm_ws := mm_in (mm_m1 (List.mem_of_getElem? (i := 65) rfl)) rfl
theorem fl_As_59 : Cond.fieldLink "GodWeathers$Asking" 59 (mm_F 2 6).1 (mm_F 2 6).2.1 (mm_F 2 6).2.2.1 ∈ mm_ws := mm_in (mm_m1 (List.mem_of_getElem? (i := 66) rfl)) rfl
theorem fl_Da_106 : Cond.fieldLink "GodWeathers$Days" 106 (mm_F 2 6).1 (mm_F 2 6).2.1 (mm_F 2 6).2.2.1 ∈ mm_ws := mm_in (mm_m1 (List.mem_of_getElem? (i := 67) rfl)) rfl
theorem fl_Re_128 : Cond.fieldLink "GodWeathers$Reader" 128 (mm_F 2 6).1 (mm_F 2 6).2.1 (mm_F 2 6).2.2.1 ∈ mm_ws := mm_in (mm_m1 (List.mem_of_getElem? (i := 68) rfl)) rfl
theorem fl_G_195 : Cond.fieldLink "GodWeathers" 195 (mm_F 2 6).1 (mm_F 2 6).2.1 (mm_F 2 6).2.2.1 ∈ mm_ws := mm_in (mm_m1 (List.mem_of_getElem? (i := 69) rfl)) rfl
theorem fl_Co_40 : Cond.fieldLink "GodWeathers$Coast" 40 (mm_F 2 7).1 (mm_F 2 7).2.1 (mm_F 2 7).2.2.1 ∈ mm_ws := mm_in (mm_m1 (List.mem_of_getElem? (i := 70) rfl)) rfl
theorem fl_Da_114 : Cond.fieldLink "GodWeathers$Days" 114 (mm_F 2 7).1 (mm_F 2 7).2.1 (mm_F 2 7).2.2.1 ∈ mm_ws := mm_in (mm_m1 (List.mem_of_getElem? (i := 71) rfl)) rfl
theorem fl_Re_131 : Cond.fieldLink "GodWeathers$Reader" 131 (mm_F 2 7).1 (mm_F 2 7).2.1 (mm_F 2 7).2.2.1 ∈ mm_ws := mm_in (mm_m1 (List.mem_of_getElem? (i := 72) rfl)) rfl
theorem fl_Ye_9 : Cond.fieldLink "GodWeathers$Year" 9 (mm_F 8 0).1 (mm_F 8 0).2.1 (mm_F 8 0).2.2.1 ∈ mm_ws := mm_in (mm_m1 (List.mem_of_getElem? (i := 99) rfl)) rfl
theorem fl_Da_74 : Cond.fieldLink "GodWeathers$Days" 74 (mm_F 8 0).1 (mm_F 8 0).2.1 (mm_F 8 0).2.2.1 ∈ mm_ws := mm_in (mm_m1 (List.mem_of_getElem? (i := 100) rfl)) rfl
theorem fl_Ye_15 : Cond.fieldLink "GodWeathers$Year" 15 (mm_F 8 1).1 (mm_F 8 1).2.1 (mm_F 8 1).2.2.1 ∈ mm_ws := mm_in (mm_m1 (List.mem_of_getElem? (i := 101) rfl)) rfl
theorem fl_Da_77 : Cond.fieldLink "GodWeathers$Days" 77 (mm_F 8 1).1 (mm_F 8 1).2.1 (mm_F 8 1).2.2.1 ∈ mm_ws := mm_in (mm_m1 (List.mem_of_getElem? (i := 102) rfl)) rfl
theorem fl_Ye_18 : Cond.fieldLink "GodWeathers$Year" 18 (mm_F 8 2).1 (mm_F 8 2).2.1 (mm_F 8 2).2.2.1 ∈ mm_ws := mm_in (mm_m1 (List.mem_of_getElem? (i := 103) rfl)) rfl
theorem fl_Da_80 : Cond.fieldLink "GodWeathers$Days" 80 (mm_F 8 2).1 (mm_F 8 2).2.1 (mm_F 8 2).2.2.1 ∈ mm_ws := mm_in (mm_m1 (List.mem_of_getElem? (i := 104) rfl)) rfl
theorem fl_Ye_27 : Cond.fieldLink "GodWeathers$Year" 27 (mm_F 8 3).1 (mm_F 8 3).2.1 (mm_F 8 3).2.2.1 ∈ mm_ws := mm_in (mm_m1 (List.mem_of_getElem? (i := 105) rfl)) rfl
theorem fl_Re_71 : Cond.fieldLink "GodWeathers$Reader" 71 (mm_F 8 3).1 (mm_F 8 3).2.1 (mm_F 8 3).2.2.1 ∈ mm_ws := mm_in (mm_m1 (List.mem_of_getElem? (i := 106) rfl)) rfl
theorem fl_Da_63 : Cond.fieldLink "GodWeathers$Days" 63 (mm_F 8 3).1 (mm_F 8 3).2.1 (mm_F 8 3).2.2.1 ∈ mm_ws := mm_in (mm_m1 (List.mem_of_getElem? (i := 107) rfl)) rfl
theorem fl_G_103 : Cond.fieldLink "GodWeathers" 103 (mm_F 8 3).1 (mm_F 8 3).2.1 (mm_F 8 3).2.2.1 ∈ mm_ws := mm_in (mm_m1 (List.mem_of_getElem? (i := 108) rfl)) rfl
theorem fl_Lo_9 : Cond.fieldLink "GodWeathers$Log" 9 (mm_F 4 0).1 (mm_F 4 0).2.1 (mm_F 4 0).2.2.1 ∈ mm_ws := mm_in (mm_m1 (List.mem_of_getElem? (i := 125) rfl)) rfl
theorem fl_Lo_15 : Cond.fieldLink "GodWeathers$Log" 15 (mm_F 4 1).1 (mm_F 4 1).2.1 (mm_F 4 1).2.2.1 ∈ mm_ws := mm_in (mm_m1 (List.mem_of_getElem? (i := 126) rfl)) rfl
theorem fl_Lo_24 : Cond.fieldLink "GodWeathers$Log" 24 (mm_F 4 2).1 (mm_F 4 2).2.1 (mm_F 4 2).2.2.1 ∈ mm_ws := mm_in (mm_m1 (List.mem_of_getElem? (i := 127) rfl)) rfl
theorem fl_Re_74 : Cond.fieldLink "GodWeathers$Reader" 74 (mm_F 4 2).1 (mm_F 4 2).2.1 (mm_F 4 2).2.2.1 ∈ mm_ws := mm_in (mm_m1 (List.mem_of_getElem? (i := 128) rfl)) rfl
theorem fl_G_178 : Cond.fieldLink "GodWeathers" 178 (mm_F 4 2).1 (mm_F 4 2).2.1 (mm_F 4 2).2.2.1 ∈ mm_ws := mm_in (mm_m1 (List.mem_of_getElem? (i := 129) rfl)) rfl
theorem fl_To_9 : Cond.fieldLink "GodWeathers$Told" 9 (mm_F 7 0).1 (mm_F 7 0).2.1 (mm_F 7 0).2.2.1 ∈ mm_ws := mm_in (mm_m1 (List.mem_of_getElem? (i := 137) rfl)) rfl
theorem fl_G_73 : Cond.fieldLink "GodWeathers" 73 (mm_F 7 0).1 (mm_F 7 0).2.1 (mm_F 7 0).2.2.1 ∈ mm_ws := mm_in (mm_m1 (List.mem_of_getElem? (i := 138) rfl)) rfl
theorem fl_To_18 : Cond.fieldLink "GodWeathers$Told" 18 (mm_F 7 1).1 (mm_F 7 1).2.1 (mm_F 7 1).2.2.1 ∈ mm_ws := mm_in (mm_m1 (List.mem_of_getElem? (i := 139) rfl)) rfl
theorem fl_To_25 : Cond.fieldLink "GodWeathers$Told" 25 (mm_F 7 2).1 (mm_F 7 2).2.1 (mm_F 7 2).2.2.1 ∈ mm_ws := mm_in (mm_m1 (List.mem_of_getElem? (i := 140) rfl)) rfl
theorem fl_To_32 : Cond.fieldLink "GodWeathers$Told" 32 (mm_F 7 3).1 (mm_F 7 3).2.1 (mm_F 7 3).2.2.1 ∈ mm_ws := mm_in (mm_m1 (List.mem_of_getElem? (i := 141) rfl)) rfl
theorem fl_To_36 : Cond.fieldLink "GodWeathers$Told" 36 (mm_F 7 4).1 (mm_F 7 4).2.1 (mm_F 7 4).2.2.1 ∈ mm_ws := mm_in (mm_m1 (List.mem_of_getElem? (i := 142) rfl)) rfl
theorem fl_G_332 : Cond.fieldLink "GodWeathers" 332 (mm_F 7 4).1 (mm_F 7 4).2.1 (mm_F 7 4).2.2.1 ∈ mm_ws := mm_in (mm_m1 (List.mem_of_getElem? (i := 143) rfl)) rfl
theorem fl_G_55 : Cond.fieldLink "GodWeathers" 55 (mm_F 7 5).1 (mm_F 7 5).2.1 (mm_F 7 5).2.2.1 ∈ mm_ws := mm_in (mm_m1 (List.mem_of_getElem? (i := 144) rfl)) rfl
theorem fl_To_60 : Cond.fieldLink "GodWeathers$Told" 60 (mm_F 7 5).1 (mm_F 7 5).2.1 (mm_F 7 5).2.2.1 ∈ mm_ws := mm_in (mm_m1 (List.mem_of_getElem? (i := 145) rfl)) rfl
theorem fl_To_63 : Cond.fieldLink "GodWeathers$Told" 63 (mm_F 7 6).1 (mm_F 7 6).2.1 (mm_F 7 6).2.2.1 ∈ mm_ws := mm_in (mm_m1 (List.mem_of_getElem? (i := 146) rfl)) rfl
theorem fl_G_63 : Cond.fieldLink "GodWeathers" 63 (mm_F 7 6).1 (mm_F 7 6).2.1 (mm_F 7 6).2.2.1 ∈ mm_ws := mm_in (mm_m1 (List.mem_of_getElem? (i := 147) rfl)) rfl
theorem fl_To_40 : Cond.fieldLink "GodWeathers$Told" 40 (mm_F 7 7).1 (mm_F 7 7).2.1 (mm_F 7 7).2.2.1 ∈ mm_ws := mm_in (mm_m1 (List.mem_of_getElem? (i := 148) rfl)) rfl
theorem fl_G_66 : Cond.fieldLink "GodWeathers" 66 (mm_F 7 7).1 (mm_F 7 7).2.1 (mm_F 7 7).2.2.1 ∈ mm_ws := mm_in (mm_m1 (List.mem_of_getElem? (i := 149) rfl)) rfl
theorem fl_Re_12 : Cond.fieldLink "GodWeathers$Reader" 12 (mm_F 5 0).1 (mm_F 5 0).2.1 (mm_F 5 0).2.2.1 ∈ mm_ws := mm_in (mm_m1 (List.mem_of_getElem? (i := 180) rfl)) rfl
theorem fl_To_70 : Cond.fieldLink "GodWeathers$Told" 70 (mm_F 5 0).1 (mm_F 5 0).2.1 (mm_F 5 0).2.2.1 ∈ mm_ws := mm_in (mm_m1 (List.mem_of_getElem? (i := 181) rfl)) rfl
theorem fl_Re_21 : Cond.fieldLink "GodWeathers$Reader" 21 (mm_F 5 1).1 (mm_F 5 1).2.1 (mm_F 5 1).2.2.1 ∈ mm_ws := mm_in (mm_m1 (List.mem_of_getElem? (i := 182) rfl)) rfl
theorem fl_To_76 : Cond.fieldLink "GodWeathers$Told" 76 (mm_F 5 1).1 (mm_F 5 1).2.1 (mm_F 5 1).2.2.1 ∈ mm_ws := mm_in (mm_m1 (List.mem_of_getElem? (i := 183) rfl)) rfl
theorem fl_Re_28 : Cond.fieldLink "GodWeathers$Reader" 28 (mm_F 5 2).1 (mm_F 5 2).2.1 (mm_F 5 2).2.2.1 ∈ mm_ws := mm_in (mm_m1 (List.mem_of_getElem? (i := 184) rfl)) rfl
theorem fl_To_80 : Cond.fieldLink "GodWeathers$Told" 80 (mm_F 5 2).1 (mm_F 5 2).2.1 (mm_F 5 2).2.2.1 ∈ mm_ws := mm_in (mm_m1 (List.mem_of_getElem? (i := 185) rfl)) rfl
theorem fl_Re_59 : Cond.fieldLink "GodWeathers$Reader" 59 (mm_F 5 3).1 (mm_F 5 3).2.1 (mm_F 5 3).2.2.1 ∈ mm_ws := mm_in (mm_m1 (List.mem_of_getElem? (i := 186) rfl)) rfl
theorem fl_G_81 : Cond.fieldLink "GodWeathers" 81 (mm_F 5 3).1 (mm_F 5 3).2.1 (mm_F 5 3).2.2.1 ∈ mm_ws := mm_in (mm_m1 (List.mem_of_getElem? (i := 187) rfl)) rfl
theorem fl_Re_62 : Cond.fieldLink "GodWeathers$Reader" 62 (mm_F 5 4).1 (mm_F 5 4).2.1 (mm_F 5 4).2.2.1 ∈ mm_ws := mm_in (mm_m1 (List.mem_of_getElem? (i := 188) rfl)) rfl
theorem fl_G_82 : Cond.fieldLink "GodWeathers" 82 (mm_F 5 4).1 (mm_F 5 4).2.1 (mm_F 5 4).2.2.1 ∈ mm_ws := mm_in (mm_m1 (List.mem_of_getElem? (i := 189) rfl)) rfl
theorem fl_Re_32 : Cond.fieldLink "GodWeathers$Reader" 32 (mm_F 5 5).1 (mm_F 5 5).2.1 (mm_F 5 5).2.2.1 ∈ mm_ws := mm_in (mm_m1 (List.mem_of_getElem? (i := 190) rfl)) rfl
theorem fl_Re_36 : Cond.fieldLink "GodWeathers$Reader" 36 (mm_F 5 6).1 (mm_F 5 6).2.1 (mm_F 5 6).2.2.1 ∈ mm_ws := mm_in (mm_m1 (List.mem_of_getElem? (i := 191) rfl)) rfl
theorem fl_Re_39 : Cond.fieldLink "GodWeathers$Reader" 39 (mm_F 5 7).1 (mm_F 5 7).2.1 (mm_F 5 7).2.2.1 ∈ mm_ws := mm_in (mm_m1 (List.mem_of_getElem? (i := 192) rfl)) rfl
theorem fl_Re_49 : Cond.fieldLink "GodWeathers$Reader" 49 (mm_F 5 8).1 (mm_F 5 8).2.1 (mm_F 5 8).2.2.1 ∈ mm_ws := mm_in (mm_m1 (List.mem_of_getElem? (i := 193) rfl)) rfl
theorem fl_Re_53 : Cond.fieldLink "GodWeathers$Reader" 53 (mm_F 5 9).1 (mm_F 5 9).2.1 (mm_F 5 9).2.2.1 ∈ mm_ws := mm_in (mm_m1 (List.mem_of_getElem? (i := 194) rfl)) rfl
theorem fl_Re_65 : Cond.fieldLink "GodWeathers$Reader" 65 (mm_F 5 10).1 (mm_F 5 10).2.1 (mm_F 5 10).2.2.1 ∈ mm_ws := mm_in (mm_m1 (List.mem_of_getElem? (i := 195) rfl)) rfl
theorem fl_Re_56 : Cond.fieldLink "GodWeathers$Reader" 56 (mm_F 5 11).1 (mm_F 5 11).2.1 (mm_F 5 11).2.2.1 ∈ mm_ws := mm_in (mm_m1 (List.mem_of_getElem? (i := 196) rfl)) rfl
theorem fl_Re_78 : Cond.fieldLink "GodWeathers$Reader" 78 (mm_F 5 12).1 (mm_F 5 12).2.1 (mm_F 5 12).2.2.1 ∈ mm_ws := mm_in (mm_m1 (List.mem_of_getElem? (i := 197) rfl)) rfl
theorem fl_Re_92 : Cond.fieldLink "GodWeathers$Reader" 92 (mm_F 5 13).1 (mm_F 5 13).2.1 (mm_F 5 13).2.2.1 ∈ mm_ws := mm_in (mm_m1 (List.mem_of_getElem? (i := 198) rfl)) rfl
theorem fl_Re_104 : Cond.fieldLink "GodWeathers$Reader" 104 (mm_F 5 14).1 (mm_F 5 14).2.1 (mm_F 5 14).2.2.1 ∈ mm_ws := mm_in (mm_m1 (List.mem_of_getElem? (i := 199) rfl)) rfl
theorem fl_Da_32 : Cond.fieldLink "GodWeathers$Days" 32 (mm_F 3 0).1 (mm_F 3 0).2.1 (mm_F 3 0).2.2.1 ∈ mm_ws := mm_in (mm_m1 (List.mem_of_getElem? (i := 237) rfl)) rfl
theorem fl_G_323 : Cond.fieldLink "GodWeathers" 323 (mm_F 3 0).1 (mm_F 3 0).2.1 (mm_F 3 0).2.2.1 ∈ mm_ws := mm_in (mm_m1 (List.mem_of_getElem? (i := 238) rfl)) rfl
theorem fl_Da_41 : Cond.fieldLink "GodWeathers$Days" 41 (mm_F 3 1).1 (mm_F 3 1).2.1 (mm_F 3 1).2.2.1 ∈ mm_ws := mm_in (mm_m1 (List.mem_of_getElem? (i := 239) rfl)) rfl
theorem fl_G_308 : Cond.fieldLink "GodWeathers" 308 (mm_F 3 1).1 (mm_F 3 1).2.1 (mm_F 3 1).2.2.1 ∈ mm_ws := mm_in (mm_m2 (List.mem_of_getElem? (i := 0) rfl)) rfl
theorem fl_Da_44 : Cond.fieldLink "GodWeathers$Days" 44 (mm_F 3 2).1 (mm_F 3 2).2.1 (mm_F 3 2).2.2.1 ∈ mm_ws := mm_in (mm_m2 (List.mem_of_getElem? (i := 1) rfl)) rfl
theorem fl_G_311 : Cond.fieldLink "GodWeathers" 311 (mm_F 3 2).1 (mm_F 3 2).2.1 (mm_F 3 2).2.2.1 ∈ mm_ws := mm_in (mm_m2 (List.mem_of_getElem? (i := 2) rfl)) rfl
theorem fl_Da_47 : Cond.fieldLink "GodWeathers$Days" 47 (mm_F 3 3).1 (mm_F 3 3).2.1 (mm_F 3 3).2.2.1 ∈ mm_ws := mm_in (mm_m2 (List.mem_of_getElem? (i := 3) rfl)) rfl
theorem fl_G_314 : Cond.fieldLink "GodWeathers" 314 (mm_F 3 3).1 (mm_F 3 3).2.1 (mm_F 3 3).2.2.1 ∈ mm_ws := mm_in (mm_m2 (List.mem_of_getElem? (i := 4) rfl)) rfl
theorem fl_Da_50 : Cond.fieldLink "GodWeathers$Days" 50 (mm_F 3 4).1 (mm_F 3 4).2.1 (mm_F 3 4).2.2.1 ∈ mm_ws := mm_in (mm_m2 (List.mem_of_getElem? (i := 5) rfl)) rfl
theorem fl_G_320 : Cond.fieldLink "GodWeathers" 320 (mm_F 3 4).1 (mm_F 3 4).2.1 (mm_F 3 4).2.2.1 ∈ mm_ws := mm_in (mm_m2 (List.mem_of_getElem? (i := 6) rfl)) rfl
theorem fl_Da_9 : Cond.fieldLink "GodWeathers$Days" 9 (mm_F 3 5).1 (mm_F 3 5).2.1 (mm_F 3 5).2.2.1 ∈ mm_ws := mm_in (mm_m2 (List.mem_of_getElem? (i := 7) rfl)) rfl
theorem fl_Da_15 : Cond.fieldLink "GodWeathers$Days" 15 (mm_F 3 6).1 (mm_F 3 6).2.1 (mm_F 3 6).2.2.1 ∈ mm_ws := mm_in (mm_m2 (List.mem_of_getElem? (i := 8) rfl)) rfl
theorem fl_Da_18 : Cond.fieldLink "GodWeathers$Days" 18 (mm_F 3 7).1 (mm_F 3 7).2.1 (mm_F 3 7).2.2.1 ∈ mm_ws := mm_in (mm_m2 (List.mem_of_getElem? (i := 9) rfl)) rfl
theorem fl_Da_21 : Cond.fieldLink "GodWeathers$Days" 21 (mm_F 3 8).1 (mm_F 3 8).2.1 (mm_F 3 8).2.2.1 ∈ mm_ws := mm_in (mm_m2 (List.mem_of_getElem? (i := 10) rfl)) rfl
theorem fl_Da_25 : Cond.fieldLink "GodWeathers$Days" 25 (mm_F 3 9).1 (mm_F 3 9).2.1 (mm_F 3 9).2.2.1 ∈ mm_ws := mm_in (mm_m2 (List.mem_of_getElem? (i := 11) rfl)) rfl
theorem fl_Da_29 : Cond.fieldLink "GodWeathers$Days" 29 (mm_F 3 10).1 (mm_F 3 10).2.1 (mm_F 3 10).2.2.1 ∈ mm_ws := mm_in (mm_m2 (List.mem_of_getElem? (i := 12) rfl)) rfl
theorem fl_Da_35 : Cond.fieldLink "GodWeathers$Days" 35 (mm_F 3 11).1 (mm_F 3 11).2.1 (mm_F 3 11).2.2.1 ∈ mm_ws := mm_in (mm_m2 (List.mem_of_getElem? (i := 13) rfl)) rfl
theorem fl_Da_38 : Cond.fieldLink "GodWeathers$Days" 38 (mm_F 3 12).1 (mm_F 3 12).2.1 (mm_F 3 12).2.2.1 ∈ mm_ws := mm_in (mm_m2 (List.mem_of_getElem? (i := 14) rfl)) rfl
theorem fl_Da_96 : Cond.fieldLink "GodWeathers$Days" 96 (mm_F 3 13).1 (mm_F 3 13).2.1 (mm_F 3 13).2.2.1 ∈ mm_ws := mm_in (mm_m2 (List.mem_of_getElem? (i := 15) rfl)) rfl
theorem fl_As_9 : Cond.fieldLink "GodWeathers$Asking" 9 (mm_F 0 0).1 (mm_F 0 0).2.1 (mm_F 0 0).2.2.1 ∈ mm_ws := mm_in (mm_m2 (List.mem_of_getElem? (i := 51) rfl)) rfl
theorem fl_G_132 : Cond.fieldLink "GodWeathers" 132 (mm_F 0 0).1 (mm_F 0 0).2.1 (mm_F 0 0).2.2.1 ∈ mm_ws := mm_in (mm_m2 (List.mem_of_getElem? (i := 52) rfl)) rfl
theorem fl_As_15 : Cond.fieldLink "GodWeathers$Asking" 15 (mm_F 0 1).1 (mm_F 0 1).2.1 (mm_F 0 1).2.2.1 ∈ mm_ws := mm_in (mm_m2 (List.mem_of_getElem? (i := 53) rfl)) rfl
theorem fl_G_339 : Cond.fieldLink "GodWeathers" 339 (mm_F 0 1).1 (mm_F 0 1).2.1 (mm_F 0 1).2.2.1 ∈ mm_ws := mm_in (mm_m2 (List.mem_of_getElem? (i := 54) rfl)) rfl
theorem fl_As_18 : Cond.fieldLink "GodWeathers$Asking" 18 (mm_F 0 2).1 (mm_F 0 2).2.1 (mm_F 0 2).2.2.1 ∈ mm_ws := mm_in (mm_m2 (List.mem_of_getElem? (i := 55) rfl)) rfl
theorem fl_As_21 : Cond.fieldLink "GodWeathers$Asking" 21 (mm_F 0 3).1 (mm_F 0 3).2.1 (mm_F 0 3).2.2.1 ∈ mm_ws := mm_in (mm_m2 (List.mem_of_getElem? (i := 56) rfl)) rfl
theorem fl_As_24 : Cond.fieldLink "GodWeathers$Asking" 24 (mm_F 0 4).1 (mm_F 0 4).2.1 (mm_F 0 4).2.2.1 ∈ mm_ws := mm_in (mm_m2 (List.mem_of_getElem? (i := 57) rfl)) rfl
theorem fl_As_52 : Cond.fieldLink "GodWeathers$Asking" 52 (mm_F 0 5).1 (mm_F 0 5).2.1 (mm_F 0 5).2.2.1 ∈ mm_ws := mm_in (mm_m2 (List.mem_of_getElem? (i := 58) rfl)) rfl
theorem fl_As_27 : Cond.fieldLink "GodWeathers$Asking" 27 (mm_F 0 6).1 (mm_F 0 6).2.1 (mm_F 0 6).2.2.1 ∈ mm_ws := mm_in (mm_m2 (List.mem_of_getElem? (i := 59) rfl)) rfl
theorem fl_As_45 : Cond.fieldLink "GodWeathers$Asking" 45 (mm_F 0 7).1 (mm_F 0 7).2.1 (mm_F 0 7).2.2.1 ∈ mm_ws := mm_in (mm_m2 (List.mem_of_getElem? (i := 60) rfl)) rfl
theorem fl_As_49 : Cond.fieldLink "GodWeathers$Asking" 49 (mm_F 0 8).1 (mm_F 0 8).2.1 (mm_F 0 8).2.2.1 ∈ mm_ws := mm_in (mm_m2 (List.mem_of_getElem? (i := 61) rfl)) rfl
theorem fl_Bo_9 : Cond.fieldLink "GodWeathers$Boats" 9 (mm_F 1 0).1 (mm_F 1 0).2.1 (mm_F 1 0).2.2.1 ∈ mm_ws := mm_in (mm_m2 (List.mem_of_getElem? (i := 87) rfl)) rfl
theorem fl_G_295 : Cond.fieldLink "GodWeathers" 295 (mm_F 1 0).1 (mm_F 1 0).2.1 (mm_F 1 0).2.2.1 ∈ mm_ws := mm_in (mm_m2 (List.mem_of_getElem? (i := 88) rfl)) rfl
theorem fl_Bo_15 : Cond.fieldLink "GodWeathers$Boats" 15 (mm_F 1 1).1 (mm_F 1 1).2.1 (mm_F 1 1).2.2.1 ∈ mm_ws := mm_in (mm_m2 (List.mem_of_getElem? (i := 89) rfl)) rfl
theorem fl_Bo_18 : Cond.fieldLink "GodWeathers$Boats" 18 (mm_F 1 2).1 (mm_F 1 2).2.1 (mm_F 1 2).2.2.1 ∈ mm_ws := mm_in (mm_m2 (List.mem_of_getElem? (i := 90) rfl)) rfl
theorem fl_Bo_21 : Cond.fieldLink "GodWeathers$Boats" 21 (mm_F 1 3).1 (mm_F 1 3).2.1 (mm_F 1 3).2.2.1 ∈ mm_ws := mm_in (mm_m2 (List.mem_of_getElem? (i := 91) rfl)) rfl
theorem fl_Bo_25 : Cond.fieldLink "GodWeathers$Boats" 25 (mm_F 1 4).1 (mm_F 1 4).2.1 (mm_F 1 4).2.2.1 ∈ mm_ws := mm_in (mm_m2 (List.mem_of_getElem? (i := 92) rfl)) rfl
theorem fl_Sk_9 : Cond.fieldLink "GodWeathers$Sky" 9 (mm_F 6 0).1 (mm_F 6 0).2.1 (mm_F 6 0).2.2.1 ∈ mm_ws := mm_in (mm_m2 (List.mem_of_getElem? (i := 110) rfl)) rfl
theorem fl_G_248 : Cond.fieldLink "GodWeathers" 248 (mm_F 6 0).1 (mm_F 6 0).2.1 (mm_F 6 0).2.2.1 ∈ mm_ws := mm_in (mm_m2 (List.mem_of_getElem? (i := 111) rfl)) rfl
theorem fl_Sk_15 : Cond.fieldLink "GodWeathers$Sky" 15 (mm_F 6 1).1 (mm_F 6 1).2.1 (mm_F 6 1).2.2.1 ∈ mm_ws := mm_in (mm_m2 (List.mem_of_getElem? (i := 112) rfl)) rfl
theorem fl_Sk_18 : Cond.fieldLink "GodWeathers$Sky" 18 (mm_F 6 2).1 (mm_F 6 2).2.1 (mm_F 6 2).2.2.1 ∈ mm_ws := mm_in (mm_m2 (List.mem_of_getElem? (i := 113) rfl)) rfl
theorem fl_Sk_41 : Cond.fieldLink "GodWeathers$Sky" 41 (mm_F 6 3).1 (mm_F 6 3).2.1 (mm_F 6 3).2.2.1 ∈ mm_ws := mm_in (mm_m2 (List.mem_of_getElem? (i := 114) rfl)) rfl
theorem fl_Sk_45 : Cond.fieldLink "GodWeathers$Sky" 45 (mm_F 6 4).1 (mm_F 6 4).2.1 (mm_F 6 4).2.2.1 ∈ mm_ws := mm_in (mm_m2 (List.mem_of_getElem? (i := 115) rfl)) rfl
theorem fl_Sk_49 : Cond.fieldLink "GodWeathers$Sky" 49 (mm_F 6 5).1 (mm_F 6 5).2.1 (mm_F 6 5).2.2.1 ∈ mm_ws := mm_in (mm_m2 (List.mem_of_getElem? (i := 116) rfl)) rfl
theorem fl_G_10 : Cond.fieldLink "GodWeathers" 10 (mm_F 9 0).1 (mm_F 9 0).2.1 (mm_F 9 0).2.2.1 ∈ mm_ws := mm_in (mm_m2 (List.mem_of_getElem? (i := 131) rfl)) rfl
theorem fl_G_16 : Cond.fieldLink "GodWeathers" 16 (mm_F 9 1).1 (mm_F 9 1).2.1 (mm_F 9 1).2.2.1 ∈ mm_ws := mm_in (mm_m2 (List.mem_of_getElem? (i := 132) rfl)) rfl
theorem fl_G_23 : Cond.fieldLink "GodWeathers" 23 (mm_F 9 2).1 (mm_F 9 2).2.1 (mm_F 9 2).2.2.1 ∈ mm_ws := mm_in (mm_m2 (List.mem_of_getElem? (i := 133) rfl)) rfl
theorem fl_G_30 : Cond.fieldLink "GodWeathers" 30 (mm_F 9 3).1 (mm_F 9 3).2.1 (mm_F 9 3).2.2.1 ∈ mm_ws := mm_in (mm_m2 (List.mem_of_getElem? (i := 134) rfl)) rfl
theorem fl_G_37 : Cond.fieldLink "GodWeathers" 37 (mm_F 9 4).1 (mm_F 9 4).2.1 (mm_F 9 4).2.2.1 ∈ mm_ws := mm_in (mm_m2 (List.mem_of_getElem? (i := 135) rfl)) rfl
theorem fl_G_44 : Cond.fieldLink "GodWeathers" 44 (mm_F 9 5).1 (mm_F 9 5).2.1 (mm_F 9 5).2.2.1 ∈ mm_ws := mm_in (mm_m2 (List.mem_of_getElem? (i := 136) rfl)) rfl
theorem fl_G_51 : Cond.fieldLink "GodWeathers" 51 (mm_F 9 6).1 (mm_F 9 6).2.1 (mm_F 9 6).2.2.1 ∈ mm_ws := mm_in (mm_m2 (List.mem_of_getElem? (i := 137) rfl)) rfl
theorem fl_M_82 : Cond.fieldLink "GodWeathersModel" 82 (mm_F 10 0).1 (mm_F 10 0).2.1 (mm_F 10 0).2.2.1 ∈ mm_ws := mm_in (mm_m5 (List.mem_of_getElem? (i := 171) rfl)) rfl
theorem fl_M_7 : Cond.fieldLink "GodWeathersModel" 7 (mm_F 10 1).1 (mm_F 10 1).2.1 (mm_F 10 1).2.2.1 ∈ mm_ws := mm_in (mm_m5 (List.mem_of_getElem? (i := 172) rfl)) rfl
theorem fl_M_13 : Cond.fieldLink "GodWeathersModel" 13 (mm_F 10 2).1 (mm_F 10 2).2.1 (mm_F 10 2).2.2.1 ∈ mm_ws := mm_in (mm_m5 (List.mem_of_getElem? (i := 173) rfl)) rfl
theorem fl_M_17 : Cond.fieldLink "GodWeathersModel" 17 (mm_F 10 3).1 (mm_F 10 3).2.1 (mm_F 10 3).2.2.1 ∈ mm_ws := mm_in (mm_m5 (List.mem_of_getElem? (i := 174) rfl)) rfl
theorem fl_M_20 : Cond.fieldLink "GodWeathersModel" 20 (mm_F 10 4).1 (mm_F 10 4).2.1 (mm_F 10 4).2.2.1 ∈ mm_ws := mm_in (mm_m5 (List.mem_of_getElem? (i := 175) rfl)) rfl
theorem fl_M_23 : Cond.fieldLink "GodWeathersModel" 23 (mm_F 10 5).1 (mm_F 10 5).2.1 (mm_F 10 5).2.2.1 ∈ mm_ws := mm_in (mm_m5 (List.mem_of_getElem? (i := 176) rfl)) rfl
theorem fl_M_26 : Cond.fieldLink "GodWeathersModel" 26 (mm_F 10 6).1 (mm_F 10 6).2.1 (mm_F 10 6).2.2.1 ∈ mm_ws := mm_in (mm_m5 (List.mem_of_getElem? (i := 177) rfl)) rfl
theorem fl_M_29 : Cond.fieldLink "GodWeathersModel" 29 (mm_F 10 7).1 (mm_F 10 7).2.1 (mm_F 10 7).2.2.1 ∈ mm_ws := mm_in (mm_m5 (List.mem_of_getElem? (i := 178) rfl)) rfl
theorem fl_M_32 : Cond.fieldLink "GodWeathersModel" 32 (mm_F 10 8).1 (mm_F 10 8).2.1 (mm_F 10 8).2.2.1 ∈ mm_ws := mm_in (mm_m5 (List.mem_of_getElem? (i := 179) rfl)) rfl
theorem fl_M_102 : Cond.fieldLink "GodWeathersModel" 102 (mm_F 10 9).1 (mm_F 10 9).2.1 (mm_F 10 9).2.2.1 ∈ mm_ws := mm_in (mm_m5 (List.mem_of_getElem? (i := 180) rfl)) rfl
theorem fl_M_105 : Cond.fieldLink "GodWeathersModel" 105 (mm_F 10 10).1 (mm_F 10 10).2.1 (mm_F 10 10).2.2.1 ∈ mm_ws := mm_in (mm_m5 (List.mem_of_getElem? (i := 181) rfl)) rfl
theorem fl_M_112 : Cond.fieldLink "GodWeathersModel" 112 (mm_F 10 11).1 (mm_F 10 11).2.1 (mm_F 10 11).2.2.1 ∈ mm_ws := mm_in (mm_m5 (List.mem_of_getElem? (i := 182) rfl)) rfl
theorem fl_M_119 : Cond.fieldLink "GodWeathersModel" 119 (mm_F 10 12).1 (mm_F 10 12).2.1 (mm_F 10 12).2.2.1 ∈ mm_ws := mm_in (mm_m5 (List.mem_of_getElem? (i := 183) rfl)) rfl
theorem fl_M_122 : Cond.fieldLink "GodWeathersModel" 122 (mm_F 10 13).1 (mm_F 10 13).2.1 (mm_F 10 13).2.2.1 ∈ mm_ws := mm_in (mm_m5 (List.mem_of_getElem? (i := 184) rfl)) rfl
theorem fl_M_115 : Cond.fieldLink "GodWeathersModel" 115 (mm_F 10 14).1 (mm_F 10 14).2.1 (mm_F 10 14).2.2.1 ∈ mm_ws := mm_in (mm_m5 (List.mem_of_getElem? (i := 185) rfl)) rfl
theorem fl_M_125 : Cond.fieldLink "GodWeathersModel" 125 (mm_F 10 15).1 (mm_F 10 15).2.1 (mm_F 10 15).2.2.1 ∈ mm_ws := mm_in (mm_m5 (List.mem_of_getElem? (i := 186) rfl)) rfl
theorem fl_M_128 : Cond.fieldLink "GodWeathersModel" 128 (mm_F 10 16).1 (mm_F 10 16).2.1 (mm_F 10 16).2.2.1 ∈ mm_ws := mm_in (mm_m5 (List.mem_of_getElem? (i := 187) rfl)) rfl
theorem fl_M_131 : Cond.fieldLink "GodWeathersModel" 131 (mm_F 10 17).1 (mm_F 10 17).2.1 (mm_F 10 17).2.2.1 ∈ mm_ws := mm_in (mm_m5 (List.mem_of_getElem? (i := 188) rfl)) rfl
theorem fl_M_35 : Cond.fieldLink "GodWeathersModel" 35 (mm_F 10 18).1 (mm_F 10 18).2.1 (mm_F 10 18).2.2.1 ∈ mm_ws := mm_in (mm_m5 (List.mem_of_getElem? (i := 189) rfl)) rfl
theorem fl_M_38 : Cond.fieldLink "GodWeathersModel" 38 (mm_F 10 19).1 (mm_F 10 19).2.1 (mm_F 10 19).2.2.1 ∈ mm_ws := mm_in (mm_m5 (List.mem_of_getElem? (i := 190) rfl)) rfl
theorem fl_M_156 : Cond.fieldLink "GodWeathersModel" 156 (mm_F 10 20).1 (mm_F 10 20).2.1 (mm_F 10 20).2.2.1 ∈ mm_ws := mm_in (mm_m5 (List.mem_of_getElem? (i := 191) rfl)) rfl
theorem fl_M_142 : Cond.fieldLink "GodWeathersModel" 142 (mm_F 10 21).1 (mm_F 10 21).2.1 (mm_F 10 21).2.2.1 ∈ mm_ws := mm_in (mm_m5 (List.mem_of_getElem? (i := 192) rfl)) rfl
theorem fl_M_232 : Cond.fieldLink "GodWeathersModel" 232 (mm_F 10 22).1 (mm_F 10 22).2.1 (mm_F 10 22).2.2.1 ∈ mm_ws := mm_in (mm_m5 (List.mem_of_getElem? (i := 193) rfl)) rfl
theorem fl_M_239 : Cond.fieldLink "GodWeathersModel" 239 (mm_F 10 23).1 (mm_F 10 23).2.1 (mm_F 10 23).2.2.1 ∈ mm_ws := mm_in (mm_m5 (List.mem_of_getElem? (i := 194) rfl)) rfl
theorem fl_M_242 : Cond.fieldLink "GodWeathersModel" 242 (mm_F 10 24).1 (mm_F 10 24).2.1 (mm_F 10 24).2.2.1 ∈ mm_ws := mm_in (mm_m5 (List.mem_of_getElem? (i := 195) rfl)) rfl
theorem fl_M_245 : Cond.fieldLink "GodWeathersModel" 245 (mm_F 10 25).1 (mm_F 10 25).2.1 (mm_F 10 25).2.2.1 ∈ mm_ws := mm_in (mm_m5 (List.mem_of_getElem? (i := 196) rfl)) rfl
theorem fl_M_248 : Cond.fieldLink "GodWeathersModel" 248 (mm_F 10 26).1 (mm_F 10 26).2.1 (mm_F 10 26).2.2.1 ∈ mm_ws := mm_in (mm_m5 (List.mem_of_getElem? (i := 197) rfl)) rfl
theorem fl_M_251 : Cond.fieldLink "GodWeathersModel" 251 (mm_F 10 27).1 (mm_F 10 27).2.1 (mm_F 10 27).2.2.1 ∈ mm_ws := mm_in (mm_m5 (List.mem_of_getElem? (i := 198) rfl)) rfl
theorem fl_M_254 : Cond.fieldLink "GodWeathersModel" 254 (mm_F 10 28).1 (mm_F 10 28).2.1 (mm_F 10 28).2.2.1 ∈ mm_ws := mm_in (mm_m5 (List.mem_of_getElem? (i := 199) rfl)) rfl
theorem fl_M_257 : Cond.fieldLink "GodWeathersModel" 257 (mm_F 10 29).1 (mm_F 10 29).2.1 (mm_F 10 29).2.2.1 ∈ mm_ws := mm_in (mm_m5 (List.mem_of_getElem? (i := 200) rfl)) rfl
theorem fl_M_41 : Cond.fieldLink "GodWeathersModel" 41 (mm_F 10 30).1 (mm_F 10 30).2.1 (mm_F 10 30).2.2.1 ∈ mm_ws := mm_in (mm_m5 (List.mem_of_getElem? (i := 201) rfl)) rfl
theorem fl_M_44 : Cond.fieldLink "GodWeathersModel" 44 (mm_F 10 31).1 (mm_F 10 31).2.1 (mm_F 10 31).2.2.1 ∈ mm_ws := mm_in (mm_m5 (List.mem_of_getElem? (i := 202) rfl)) rfl
theorem fl_M_47 : Cond.fieldLink "GodWeathersModel" 47 (mm_F 10 32).1 (mm_F 10 32).2.1 (mm_F 10 32).2.2.1 ∈ mm_ws := mm_in (mm_m5 (List.mem_of_getElem? (i := 203) rfl)) rfl
theorem fl_M_266 : Cond.fieldLink "GodWeathersModel" 266 (mm_F 10 33).1 (mm_F 10 33).2.1 (mm_F 10 33).2.2.1 ∈ mm_ws := mm_in (mm_m5 (List.mem_of_getElem? (i := 204) rfl)) rfl
theorem fl_M_50 : Cond.fieldLink "GodWeathersModel" 50 (mm_F 10 34).1 (mm_F 10 34).2.1 (mm_F 10 34).2.2.1 ∈ mm_ws := mm_in (mm_m5 (List.mem_of_getElem? (i := 205) rfl)) rfl
theorem fl_M_339 : Cond.fieldLink "GodWeathersModel" 339 (mm_F 10 35).1 (mm_F 10 35).2.1 (mm_F 10 35).2.2.1 ∈ mm_ws := mm_in (mm_m5 (List.mem_of_getElem? (i := 206) rfl)) rfl
theorem fl_M_350 : Cond.fieldLink "GodWeathersModel" 350 (mm_F 10 36).1 (mm_F 10 36).2.1 (mm_F 10 36).2.2.1 ∈ mm_ws := mm_in (mm_m5 (List.mem_of_getElem? (i := 207) rfl)) rfl
theorem fl_M_353 : Cond.fieldLink "GodWeathersModel" 353 (mm_F 10 37).1 (mm_F 10 37).2.1 (mm_F 10 37).2.2.1 ∈ mm_ws := mm_in (mm_m5 (List.mem_of_getElem? (i := 208) rfl)) rfl
theorem fl_M_54 : Cond.fieldLink "GodWeathersModel" 54 (mm_F 10 38).1 (mm_F 10 38).2.1 (mm_F 10 38).2.2.1 ∈ mm_ws := mm_in (mm_m5 (List.mem_of_getElem? (i := 209) rfl)) rfl
theorem fl_M_57 : Cond.fieldLink "GodWeathersModel" 57 (mm_F 10 39).1 (mm_F 10 39).2.1 (mm_F 10 39).2.2.1 ∈ mm_ws := mm_in (mm_m5 (List.mem_of_getElem? (i := 210) rfl)) rfl
theorem fl_M_385 : Cond.fieldLink "GodWeathersModel" 385 (mm_F 10 40).1 (mm_F 10 40).2.1 (mm_F 10 40).2.2.1 ∈ mm_ws := mm_in (mm_m5 (List.mem_of_getElem? (i := 211) rfl)) rfl
theorem fl_M_394 : Cond.fieldLink "GodWeathersModel" 394 (mm_F 10 41).1 (mm_F 10 41).2.1 (mm_F 10 41).2.2.1 ∈ mm_ws := mm_in (mm_m5 (List.mem_of_getElem? (i := 212) rfl)) rfl
theorem fl_M_60 : Cond.fieldLink "GodWeathersModel" 60 (mm_F 10 42).1 (mm_F 10 42).2.1 (mm_F 10 42).2.2.1 ∈ mm_ws := mm_in (mm_m5 (List.mem_of_getElem? (i := 213) rfl)) rfl
theorem fl_M_406 : Cond.fieldLink "GodWeathersModel" 406 (mm_F 10 43).1 (mm_F 10 43).2.1 (mm_F 10 43).2.2.1 ∈ mm_ws := mm_in (mm_m5 (List.mem_of_getElem? (i := 214) rfl)) rfl
theorem fl_M_428 : Cond.fieldLink "GodWeathersModel" 428 (mm_F 10 44).1 (mm_F 10 44).2.1 (mm_F 10 44).2.2.1 ∈ mm_ws := mm_in (mm_m5 (List.mem_of_getElem? (i := 215) rfl)) rfl
theorem fl_M_63 : Cond.fieldLink "GodWeathersModel" 63 (mm_F 10 45).1 (mm_F 10 45).2.1 (mm_F 10 45).2.2.1 ∈ mm_ws := mm_in (mm_m5 (List.mem_of_getElem? (i := 216) rfl)) rfl
theorem fl_M_66 : Cond.fieldLink "GodWeathersModel" 66 (mm_F 10 46).1 (mm_F 10 46).2.1 (mm_F 10 46).2.2.1 ∈ mm_ws := mm_in (mm_m5 (List.mem_of_getElem? (i := 217) rfl)) rfl
theorem fl_M_69 : Cond.fieldLink "GodWeathersModel" 69 (mm_F 10 47).1 (mm_F 10 47).2.1 (mm_F 10 47).2.2.1 ∈ mm_ws := mm_in (mm_m5 (List.mem_of_getElem? (i := 218) rfl)) rfl
theorem fl_M_73 : Cond.fieldLink "GodWeathersModel" 73 (mm_F 10 48).1 (mm_F 10 48).2.1 (mm_F 10 48).2.2.1 ∈ mm_ws := mm_in (mm_m5 (List.mem_of_getElem? (i := 219) rfl)) rfl
theorem fl_M_76 : Cond.fieldLink "GodWeathersModel" 76 (mm_F 10 49).1 (mm_F 10 49).2.1 (mm_F 10 49).2.2.1 ∈ mm_ws := mm_in (mm_m5 (List.mem_of_getElem? (i := 220) rfl)) rfl
theorem fl_M_79 : Cond.fieldLink "GodWeathersModel" 79 (mm_F 10 50).1 (mm_F 10 50).2.1 (mm_F 10 50).2.2.1 ∈ mm_ws := mm_in (mm_m5 (List.mem_of_getElem? (i := 221) rfl)) rfl
theorem ml_law_9 : Cond.methodLink "GodWeathersLaw" 9 k_G_init.1 ∈ mm_ws := mm_in (mm_m1 (List.mem_of_getElem? (i := 23) rfl)) rfl
theorem ml_G_1 : Cond.methodLink "GodWeathers" 1 objectInit ∈ mm_ws := mm_in (mm_m1 (List.mem_of_getElem? (i := 26) rfl)) rfl
theorem ml_To_3 : Cond.methodLink "GodWeathers$Told" 3 objectInit ∈ mm_ws := mm_in (mm_m1 (List.mem_of_getElem? (i := 34) rfl)) rfl
theorem ml_Co_3 : Cond.methodLink "GodWeathers$Coast" 3 objectInit ∈ mm_ws := mm_in (mm_m1 (List.mem_of_getElem? (i := 41) rfl)) rfl
theorem ml_Ye_3 : Cond.methodLink "GodWeathers$Year" 3 objectInit ∈ mm_ws := mm_in (mm_m1 (List.mem_of_getElem? (i := 98) rfl)) rfl
theorem ml_Lo_3 : Cond.methodLink "GodWeathers$Log" 3 objectInit ∈ mm_ws := mm_in (mm_m1 (List.mem_of_getElem? (i := 124) rfl)) rfl
theorem ml_Re_3 : Cond.methodLink "GodWeathers$Reader" 3 objectInit ∈ mm_ws := mm_in (mm_m1 (List.mem_of_getElem? (i := 173) rfl)) rfl
theorem ml_Da_3 : Cond.methodLink "GodWeathers$Days" 3 objectInit ∈ mm_ws := mm_in (mm_m1 (List.mem_of_getElem? (i := 236) rfl)) rfl
theorem ml_As_3 : Cond.methodLink "GodWeathers$Asking" 3 objectInit ∈ mm_ws := mm_in (mm_m2 (List.mem_of_getElem? (i := 50) rfl)) rfl
theorem ml_Bo_3 : Cond.methodLink "GodWeathers$Boats" 3 objectInit ∈ mm_ws := mm_in (mm_m2 (List.mem_of_getElem? (i := 86) rfl)) rfl
theorem ml_Sk_3 : Cond.methodLink "GodWeathers$Sky" 3 objectInit ∈ mm_ws := mm_in (mm_m2 (List.mem_of_getElem? (i := 109) rfl)) rfl
theorem ml_law_13 : Cond.methodLink "GodWeathersLaw" 13 k_G_feed.1 ∈ mm_ws := mm_in (mm_m2 (List.mem_of_getElem? (i := 153) rfl)) rfl
theorem ml_G_59 : Cond.methodLink "GodWeathers" 59 k_To_put.1 ∈ mm_ws := mm_in (mm_m2 (List.mem_of_getElem? (i := 157) rfl)) rfl
theorem ml_law_18 : Cond.methodLink "GodWeathersLaw" 18 k_G_end.1 ∈ mm_ws := mm_in (mm_m2 (List.mem_of_getElem? (i := 161) rfl)) rfl
theorem ml_law_23 : Cond.methodLink "GodWeathersLaw" 23 k_G_text.1 ∈ mm_ws := mm_in (mm_m2 (List.mem_of_getElem? (i := 165) rfl)) rfl
theorem ml_G_69 : Cond.methodLink "GodWeathers" 69 k_To_slotFor.1 ∈ mm_ws := mm_in (mm_m2 (List.mem_of_getElem? (i := 169) rfl)) rfl
theorem ml_G_77 : Cond.methodLink "GodWeathers" 77 k_Re_read.1 ∈ mm_ws := mm_in (mm_m2 (List.mem_of_getElem? (i := 176) rfl)) rfl
theorem ml_Re_43 : Cond.methodLink "GodWeathers$Reader" 43 Lib.Math.min.name ∈ mm_ws := mm_in (mm_m2 (List.mem_of_getElem? (i := 180) rfl)) rfl
theorem ml_Re_68 : Cond.methodLink "GodWeathers$Reader" 68 k_Co_clear.1 ∈ mm_ws := mm_in (mm_m2 (List.mem_of_getElem? (i := 183) rfl)) rfl
theorem ml_Co_30 : Cond.methodLink "GodWeathers$Coast" 30 k_Arr_fillI.1 ∈ mm_ws := mm_in (mm_m2 (List.mem_of_getElem? (i := 187) rfl)) rfl
theorem ml_Re_75 : Cond.methodLink "GodWeathers$Reader" 75 k_Re_takeToken.1 ∈ mm_ws := mm_in (mm_m2 (List.mem_of_getElem? (i := 190) rfl)) rfl
theorem ml_Re_201 : Cond.methodLink "GodWeathers$Reader" 201 k_Re_isLetter.1 ∈ mm_ws := mm_in (mm_m2 (List.mem_of_getElem? (i := 194) rfl)) rfl
theorem ml_Re_204 : Cond.methodLink "GodWeathers$Reader" 204 k_Re_takeWord.1 ∈ mm_ws := mm_in (mm_m2 (List.mem_of_getElem? (i := 198) rfl)) rfl
theorem ml_Re_207 : Cond.methodLink "GodWeathers$Reader" 207 k_Re_isDigit.1 ∈ mm_ws := mm_in (mm_m2 (List.mem_of_getElem? (i := 202) rfl)) rfl
theorem ml_Re_210 : Cond.methodLink "GodWeathers$Reader" 210 k_Re_takeNumber.1 ∈ mm_ws := mm_in (mm_m2 (List.mem_of_getElem? (i := 206) rfl)) rfl
theorem ml_Re_81 : Cond.methodLink "GodWeathers$Reader" 81 k_Re_readLine.1 ∈ mm_ws := mm_in (mm_m2 (List.mem_of_getElem? (i := 210) rfl)) rfl
theorem ml_Re_95 : Cond.methodLink "GodWeathers$Reader" 95 k_Re_lineOfWord.1 ∈ mm_ws := mm_in (mm_m2 (List.mem_of_getElem? (i := 214) rfl)) rfl
theorem ml_Re_155 : Cond.methodLink "GodWeathers$Reader" 155 k_Re_coastLine.1 ∈ mm_ws := mm_in (mm_m2 (List.mem_of_getElem? (i := 218) rfl)) rfl
theorem ml_Re_166 : Cond.methodLink "GodWeathers$Reader" 166 k_Re_isWord.1 ∈ mm_ws := mm_in (mm_m2 (List.mem_of_getElem? (i := 223) rfl)) rfl
theorem ml_Re_193 : Cond.methodLink "GodWeathers$Reader" 193 k_Str_length.1 ∈ mm_ws := mm_in (mm_m2 (List.mem_of_getElem? (i := 227) rfl)) rfl
theorem ml_Str_335 : Cond.methodLink "java/lang/String" 335 k_Str_coder.1 ∈ mm_ws := mm_in (mm_m2 (List.mem_of_getElem? (i := 231) rfl)) rfl
theorem ml_Re_197 : Cond.methodLink "GodWeathers$Reader" 197 k_Str_charAt.1 ∈ mm_ws := mm_in (mm_m2 (List.mem_of_getElem? (i := 237) rfl)) rfl
theorem ml_Str_492 : Cond.methodLink "java/lang/String" 492 k_Str_isLatin1.1 ∈ mm_ws := mm_in (mm_m3 (List.mem_of_getElem? (i := 1) rfl)) rfl
theorem ml_Str_495 : Cond.methodLink "java/lang/String" 495 k_Lat_charAt.1 ∈ mm_ws := mm_in (mm_m3 (List.mem_of_getElem? (i := 5) rfl)) rfl
theorem ml_Lat_9 : Cond.methodLink "java/lang/StringLatin1" 9 k_Str_checkIndex.1 ∈ mm_ws := mm_in (mm_m3 (List.mem_of_getElem? (i := 8) rfl)) rfl
theorem ml_Str_1059 : Cond.methodLink "java/lang/String" 1059 k_Pre_checkIndex.1 ∈ mm_ws := mm_in (mm_m3 (List.mem_of_getElem? (i := 13) rfl)) rfl
theorem ml_Str_498 : Cond.methodLink "java/lang/String" 498 k_Utf_charAt.1 ∈ mm_ws := mm_in (mm_m3 (List.mem_of_getElem? (i := 16) rfl)) rfl
theorem ml_Utf_67 : Cond.methodLink "java/lang/StringUTF16" 67 k_Utf_checkIndex.1 ∈ mm_ws := mm_in (mm_m3 (List.mem_of_getElem? (i := 19) rfl)) rfl
theorem ml_Utf_48 : Cond.methodLink "java/lang/StringUTF16" 48 k_Utf_length.1 ∈ mm_ws := mm_in (mm_m3 (List.mem_of_getElem? (i := 22) rfl)) rfl
theorem ml_Utf_414 : Cond.methodLink "java/lang/StringUTF16" 414 k_Str_checkIndex.1 ∈ mm_ws := mm_in (mm_m3 (List.mem_of_getElem? (i := 25) rfl)) rfl
theorem ml_Utf_71 : Cond.methodLink "java/lang/StringUTF16" 71 k_Utf_getChar.1 ∈ mm_ws := mm_in (mm_m3 (List.mem_of_getElem? (i := 26) rfl)) rfl
theorem ml_Re_158 : Cond.methodLink "GodWeathers$Reader" 158 k_Re_deedLine.1 ∈ mm_ws := mm_in (mm_m3 (List.mem_of_getElem? (i := 40) rfl)) rfl
theorem ml_Re_161 : Cond.methodLink "GodWeathers$Reader" 161 k_Re_factLine.1 ∈ mm_ws := mm_in (mm_m3 (List.mem_of_getElem? (i := 49) rfl)) rfl
theorem ml_Re_98 : Cond.methodLink "GodWeathers$Reader" 98 k_Re_getStuck.1 ∈ mm_ws := mm_in (mm_m3 (List.mem_of_getElem? (i := 55) rfl)) rfl
theorem ml_Re_107 : Cond.methodLink "GodWeathers$Reader" 107 k_Re_judge.1 ∈ mm_ws := mm_in (mm_m3 (List.mem_of_getElem? (i := 61) rfl)) rfl
theorem ml_Re_110 : Cond.methodLink "GodWeathers$Reader" 110 k_Re_isFull.1 ∈ mm_ws := mm_in (mm_m3 (List.mem_of_getElem? (i := 65) rfl)) rfl
theorem ml_Re_88 : Cond.methodLink "GodWeathers$Reader" 88 k_Re_note.1 ∈ mm_ws := mm_in (mm_m3 (List.mem_of_getElem? (i := 69) rfl)) rfl
theorem ml_Re_114 : Cond.methodLink "GodWeathers$Reader" 114 k_Re_canBe.1 ∈ mm_ws := mm_in (mm_m3 (List.mem_of_getElem? (i := 73) rfl)) rfl
theorem ml_Re_118 : Cond.methodLink "GodWeathers$Reader" 118 k_Re_tellOfCoast.1 ∈ mm_ws := mm_in (mm_m3 (List.mem_of_getElem? (i := 79) rfl)) rfl
theorem ml_Re_122 : Cond.methodLink "GodWeathers$Reader" 122 k_Ye_add.1 ∈ mm_ws := mm_in (mm_m3 (List.mem_of_getElem? (i := 83) rfl)) rfl
theorem ml_Re_126 : Cond.methodLink "GodWeathers$Reader" 126 k_Lo_add.1 ∈ mm_ws := mm_in (mm_m3 (List.mem_of_getElem? (i := 87) rfl)) rfl
theorem ml_Re_84 : Cond.methodLink "GodWeathers$Reader" 84 k_Co_allWorks.1 ∈ mm_ws := mm_in (mm_m3 (List.mem_of_getElem? (i := 91) rfl)) rfl
theorem ml_G_85 : Cond.methodLink "GodWeathers" 85 k_To_keep.1 ∈ mm_ws := mm_in (mm_m3 (List.mem_of_getElem? (i := 95) rfl)) rfl
theorem ml_To_50 : Cond.methodLink "GodWeathers$Told" 50 k_Co_copyFrom.1 ∈ mm_ws := mm_in (mm_m3 (List.mem_of_getElem? (i := 99) rfl)) rfl
theorem ml_Co_43 : Cond.methodLink "GodWeathers$Coast" 43 arraycopyName ∈ mm_ws := mm_in (mm_m3 (List.mem_of_getElem? (i := 103) rfl)) rfl
theorem ml_To_54 : Cond.methodLink "GodWeathers$Told" 54 k_Ye_copyFrom.1 ∈ mm_ws := mm_in (mm_m3 (List.mem_of_getElem? (i := 106) rfl)) rfl
theorem ml_Ye_21 : Cond.methodLink "GodWeathers$Year" 21 arraycopyName ∈ mm_ws := mm_in (mm_m3 (List.mem_of_getElem? (i := 110) rfl)) rfl
theorem ml_To_57 : Cond.methodLink "GodWeathers$Told" 57 k_Lo_copyFrom.1 ∈ mm_ws := mm_in (mm_m3 (List.mem_of_getElem? (i := 111) rfl)) rfl
theorem ml_Lo_18 : Cond.methodLink "GodWeathers$Log" 18 arraycopyName ∈ mm_ws := mm_in (mm_m3 (List.mem_of_getElem? (i := 115) rfl)) rfl
theorem ml_To_84 : Cond.methodLink "GodWeathers$Told" 84 Lib.Math.max.name ∈ mm_ws := mm_in (mm_m3 (List.mem_of_getElem? (i := 116) rfl)) rfl
theorem ml_law_28 : Cond.methodLink "GodWeathersLaw" 28 k_G_fault.1 ∈ mm_ws := mm_in (mm_m3 (List.mem_of_getElem? (i := 119) rfl)) rfl
theorem ml_law_32 : Cond.methodLink "GodWeathersLaw" 32 k_G_coast.1 ∈ mm_ws := mm_in (mm_m3 (List.mem_of_getElem? (i := 123) rfl)) rfl
theorem ml_G_89 : Cond.methodLink "GodWeathers" 89 k_To_coastAt.1 ∈ mm_ws := mm_in (mm_m3 (List.mem_of_getElem? (i := 127) rfl)) rfl
theorem ml_G_93 : Cond.methodLink "GodWeathers" 93 k_Co_look.1 ∈ mm_ws := mm_in (mm_m3 (List.mem_of_getElem? (i := 131) rfl)) rfl
theorem ml_Co_53 : Cond.methodLink "GodWeathers$Coast" 53 k_Co_hasChild.1 ∈ mm_ws := mm_in (mm_m3 (List.mem_of_getElem? (i := 138) rfl)) rfl
theorem ml_Co_56 : Cond.methodLink "GodWeathers$Coast" 56 k_Co_hasWork.1 ∈ mm_ws := mm_in (mm_m3 (List.mem_of_getElem? (i := 142) rfl)) rfl
theorem ml_law_36 : Cond.methodLink "GodWeathersLaw" 36 k_G_deed.1 ∈ mm_ws := mm_in (mm_m3 (List.mem_of_getElem? (i := 146) rfl)) rfl
theorem ml_G_99 : Cond.methodLink "GodWeathers" 99 k_To_yearAt.1 ∈ mm_ws := mm_in (mm_m3 (List.mem_of_getElem? (i := 150) rfl)) rfl
theorem ml_G_108 : Cond.methodLink "GodWeathers" 108 k_Ye_look.1 ∈ mm_ws := mm_in (mm_m3 (List.mem_of_getElem? (i := 154) rfl)) rfl
theorem ml_law_41 : Cond.methodLink "GodWeathersLaw" 41 k_G_till.1 ∈ mm_ws := mm_in (mm_m3 (List.mem_of_getElem? (i := 158) rfl)) rfl
theorem ml_G_110 : Cond.methodLink "GodWeathers" 110 k_Da_live.1 ∈ mm_ws := mm_in (mm_m3 (List.mem_of_getElem? (i := 162) rfl)) rfl
theorem ml_Da_59 : Cond.methodLink "GodWeathers$Days" 59 k_Da_begin.1 ∈ mm_ws := mm_in (mm_m3 (List.mem_of_getElem? (i := 166) rfl)) rfl
theorem ml_Da_53 : Cond.methodLink "GodWeathers$Days" 53 k_Arr_fillI.1 ∈ mm_ws := mm_in (mm_m3 (List.mem_of_getElem? (i := 170) rfl)) rfl
theorem ml_Da_68 : Cond.methodLink "GodWeathers$Days" 68 Lib.Math.min.name ∈ mm_ws := mm_in (mm_m3 (List.mem_of_getElem? (i := 171) rfl)) rfl
theorem ml_Da_83 : Cond.methodLink "GodWeathers$Days" 83 k_Da_deal.1 ∈ mm_ws := mm_in (mm_m3 (List.mem_of_getElem? (i := 172) rfl)) rfl
theorem ml_Da_122 : Cond.methodLink "GodWeathers$Days" 122 k_Da_ask.1 ∈ mm_ws := mm_in (mm_m3 (List.mem_of_getElem? (i := 176) rfl)) rfl
theorem ml_Da_118 : Cond.methodLink "GodWeathers$Days" 118 k_Co_isGodparent.1 ∈ mm_ws := mm_in (mm_m3 (List.mem_of_getElem? (i := 180) rfl)) rfl
theorem ml_Da_128 : Cond.methodLink "GodWeathers$Days" 128 k_Co_hereOnceComes.1 ∈ mm_ws := mm_in (mm_m3 (List.mem_of_getElem? (i := 188) rfl)) rfl
theorem ml_Da_125 : Cond.methodLink "GodWeathers$Days" 125 k_Da_thank.1 ∈ mm_ws := mm_in (mm_m3 (List.mem_of_getElem? (i := 192) rfl)) rfl
theorem ml_Da_131 : Cond.methodLink "GodWeathers$Days" 131 k_Da_work.1 ∈ mm_ws := mm_in (mm_m3 (List.mem_of_getElem? (i := 196) rfl)) rfl
theorem ml_Da_141 : Cond.methodLink "GodWeathers$Days" 141 k_Co_hasWork.1 ∈ mm_ws := mm_in (mm_m3 (List.mem_of_getElem? (i := 200) rfl)) rfl
theorem ml_Da_135 : Cond.methodLink "GodWeathers$Days" 135 k_Da_passDay.1 ∈ mm_ws := mm_in (mm_m3 (List.mem_of_getElem? (i := 201) rfl)) rfl
theorem ml_Da_147 : Cond.methodLink "GodWeathers$Days" 147 k_Da_forget.1 ∈ mm_ws := mm_in (mm_m3 (List.mem_of_getElem? (i := 205) rfl)) rfl
theorem ml_Da_87 : Cond.methodLink "GodWeathers$Days" 87 k_Int_bitCount.1 ∈ mm_ws := mm_in (mm_m3 (List.mem_of_getElem? (i := 209) rfl)) rfl
theorem ml_Da_93 : Cond.methodLink "GodWeathers$Days" 93 Lib.Math.max.name ∈ mm_ws := mm_in (mm_m3 (List.mem_of_getElem? (i := 215) rfl)) rfl
theorem ml_law_45 : Cond.methodLink "GodWeathersLaw" 45 k_G_state.1 ∈ mm_ws := mm_in (mm_m3 (List.mem_of_getElem? (i := 216) rfl)) rfl
theorem ml_G_114 : Cond.methodLink "GodWeathers" 114 k_Da_look.1 ∈ mm_ws := mm_in (mm_m3 (List.mem_of_getElem? (i := 220) rfl)) rfl
theorem ml_Da_154 : Cond.methodLink "GodWeathers$Days" 154 k_Co_worthOf.1 ∈ mm_ws := mm_in (mm_m3 (List.mem_of_getElem? (i := 224) rfl)) rfl
theorem ml_Da_157 : Cond.methodLink "GodWeathers$Days" 157 k_Da_lookAtChild.1 ∈ mm_ws := mm_in (mm_m3 (List.mem_of_getElem? (i := 228) rfl)) rfl
theorem ml_Da_160 : Cond.methodLink "GodWeathers$Days" 160 k_Co_hasChild.1 ∈ mm_ws := mm_in (mm_m3 (List.mem_of_getElem? (i := 232) rfl)) rfl
theorem ml_law_50 : Cond.methodLink "GodWeathersLaw" 50 k_G_call.1 ∈ mm_ws := mm_in (mm_m3 (List.mem_of_getElem? (i := 233) rfl)) rfl
theorem ml_G_115 : Cond.methodLink "GodWeathers" 115 k_To_coastWithWork.1 ∈ mm_ws := mm_in (mm_m3 (List.mem_of_getElem? (i := 237) rfl)) rfl
theorem ml_To_90 : Cond.methodLink "GodWeathers$Told" 90 k_To_coastAt.1 ∈ mm_ws := mm_in (mm_m4 (List.mem_of_getElem? (i := 1) rfl)) rfl
theorem ml_To_97 : Cond.methodLink "GodWeathers$Told" 97 k_Co_hasWork.1 ∈ mm_ws := mm_in (mm_m4 (List.mem_of_getElem? (i := 2) rfl)) rfl
theorem ml_G_123 : Cond.methodLink "GodWeathers" 123 k_Int_bitCount.1 ∈ mm_ws := mm_in (mm_m4 (List.mem_of_getElem? (i := 3) rfl)) rfl
theorem ml_G_128 : Cond.methodLink "GodWeathers" 128 k_As_assign.1 ∈ mm_ws := mm_in (mm_m4 (List.mem_of_getElem? (i := 4) rfl)) rfl
theorem ml_As_98 : Cond.methodLink "GodWeathers$Asking" 98 k_As_assignFrom.1 ∈ mm_ws := mm_in (mm_m4 (List.mem_of_getElem? (i := 8) rfl)) rfl
theorem ml_As_102 : Cond.methodLink "GodWeathers$Asking" 102 k_Int_numberOfTrailingZeros.1 ∈ mm_ws := mm_in (mm_m4 (List.mem_of_getElem? (i := 12) rfl)) rfl
theorem ml_As_70 : Cond.methodLink "GodWeathers$Asking" 70 k_Co_isGodparent.1 ∈ mm_ws := mm_in (mm_m4 (List.mem_of_getElem? (i := 17) rfl)) rfl
theorem ml_law_54 : Cond.methodLink "GodWeathersLaw" 54 k_G_feast.1 ∈ mm_ws := mm_in (mm_m4 (List.mem_of_getElem? (i := 18) rfl)) rfl
theorem ml_G_135 : Cond.methodLink "GodWeathers" 135 k_G_bestRow.1 ∈ mm_ws := mm_in (mm_m4 (List.mem_of_getElem? (i := 22) rfl)) rfl
theorem ml_G_211 : Cond.methodLink "GodWeathers" 211 k_Co_hasChild.1 ∈ mm_ws := mm_in (mm_m4 (List.mem_of_getElem? (i := 26) rfl)) rfl
theorem ml_G_267 : Cond.methodLink "GodWeathers" 267 k_As_begin.1 ∈ mm_ws := mm_in (mm_m4 (List.mem_of_getElem? (i := 27) rfl)) rfl
theorem ml_As_31 : Cond.methodLink "GodWeathers$Asking" 31 k_Co_worksWith.1 ∈ mm_ws := mm_in (mm_m4 (List.mem_of_getElem? (i := 31) rfl)) rfl
theorem ml_As_37 : Cond.methodLink "GodWeathers$Asking" 37 k_Int_bitCount.1 ∈ mm_ws := mm_in (mm_m4 (List.mem_of_getElem? (i := 35) rfl)) rfl
theorem ml_As_42 : Cond.methodLink "GodWeathers$Asking" 42 k_Co_worthOf.1 ∈ mm_ws := mm_in (mm_m4 (List.mem_of_getElem? (i := 36) rfl)) rfl
theorem ml_G_256 : Cond.methodLink "GodWeathers" 256 k_Co_allChildren.1 ∈ mm_ws := mm_in (mm_m4 (List.mem_of_getElem? (i := 37) rfl)) rfl
theorem ml_G_271 : Cond.methodLink "GodWeathers" 271 k_As_most.1 ∈ mm_ws := mm_in (mm_m4 (List.mem_of_getElem? (i := 41) rfl)) rfl
theorem ml_As_55 : Cond.methodLink "GodWeathers$Asking" 55 k_As_walk.1 ∈ mm_ws := mm_in (mm_m4 (List.mem_of_getElem? (i := 45) rfl)) rfl
theorem ml_As_62 : Cond.methodLink "GodWeathers$Asking" 62 k_As_arrive.1 ∈ mm_ws := mm_in (mm_m4 (List.mem_of_getElem? (i := 49) rfl)) rfl
theorem ml_As_77 : Cond.methodLink "GodWeathers$Asking" 77 arraycopyName ∈ mm_ws := mm_in (mm_m4 (List.mem_of_getElem? (i := 53) rfl)) rfl
theorem ml_As_73 : Cond.methodLink "GodWeathers$Asking" 73 k_Co_hereOnceComes.1 ∈ mm_ws := mm_in (mm_m4 (List.mem_of_getElem? (i := 54) rfl)) rfl
theorem ml_law_58 : Cond.methodLink "GodWeathersLaw" 58 k_G_odds.1 ∈ mm_ws := mm_in (mm_m4 (List.mem_of_getElem? (i := 55) rfl)) rfl
theorem ml_G_139 : Cond.methodLink "GodWeathers" 139 k_G_isWeatherBits.1 ∈ mm_ws := mm_in (mm_m4 (List.mem_of_getElem? (i := 59) rfl)) rfl
theorem ml_G_145 : Cond.methodLink "GodWeathers" 145 k_Co_chances.1 ∈ mm_ws := mm_in (mm_m4 (List.mem_of_getElem? (i := 63) rfl)) rfl
theorem ml_G_149 : Cond.methodLink "GodWeathers" 149 k_Co_chancesUnder.1 ∈ mm_ws := mm_in (mm_m4 (List.mem_of_getElem? (i := 67) rfl)) rfl
theorem ml_G_152 : Cond.methodLink "GodWeathers" 152 k_G_leastTerms.1 ∈ mm_ws := mm_in (mm_m4 (List.mem_of_getElem? (i := 72) rfl)) rfl
theorem ml_law_63 : Cond.methodLink "GodWeathersLaw" 63 k_G_village.1 ∈ mm_ws := mm_in (mm_m4 (List.mem_of_getElem? (i := 75) rfl)) rfl
theorem ml_G_156 : Cond.methodLink "GodWeathers" 156 k_Cr_smallestVillage.1 ∈ mm_ws := mm_in (mm_m4 (List.mem_of_getElem? (i := 79) rfl)) rfl
theorem ml_Cr_29 : Cond.methodLink "GodWeathers$Crew" 29 k_Co_allChildren.1 ∈ mm_ws := mm_in (mm_m4 (List.mem_of_getElem? (i := 82) rfl)) rfl
theorem ml_Cr_33 : Cond.methodLink "GodWeathers$Crew" 33 k_Cr_weathersOf.1 ∈ mm_ws := mm_in (mm_m4 (List.mem_of_getElem? (i := 83) rfl)) rfl
theorem ml_Cr_15 : Cond.methodLink "GodWeathers$Crew" 15 k_Int_bitCount.1 ∈ mm_ws := mm_in (mm_m4 (List.mem_of_getElem? (i := 87) rfl)) rfl
theorem ml_law_68 : Cond.methodLink "GodWeathersLaw" 68 k_G_boats.1 ∈ mm_ws := mm_in (mm_m4 (List.mem_of_getElem? (i := 88) rfl)) rfl
theorem ml_G_162 : Cond.methodLink "GodWeathers" 162 k_Bo_fewest.1 ∈ mm_ws := mm_in (mm_m4 (List.mem_of_getElem? (i := 92) rfl)) rfl
theorem ml_Bo_29 : Cond.methodLink "GodWeathers$Boats" 29 k_Arr_fillI.1 ∈ mm_ws := mm_in (mm_m4 (List.mem_of_getElem? (i := 96) rfl)) rfl
theorem ml_Bo_40 : Cond.methodLink "GodWeathers$Boats" 40 k_Bo_board.1 ∈ mm_ws := mm_in (mm_m4 (List.mem_of_getElem? (i := 97) rfl)) rfl
theorem ml_Bo_47 : Cond.methodLink "GodWeathers$Boats" 47 Lib.Math.max.name ∈ mm_ws := mm_in (mm_m4 (List.mem_of_getElem? (i := 101) rfl)) rfl
theorem ml_law_72 : Cond.methodLink "GodWeathersLaw" 72 k_G_headland.1 ∈ mm_ws := mm_in (mm_m4 (List.mem_of_getElem? (i := 102) rfl)) rfl
theorem ml_G_166 : Cond.methodLink "GodWeathers" 166 k_As_opening.1 ∈ mm_ws := mm_in (mm_m4 (List.mem_of_getElem? (i := 106) rfl)) rfl
theorem ml_As_109 : Cond.methodLink "GodWeathers$Asking" 109 k_As_outcome.1 ∈ mm_ws := mm_in (mm_m4 (List.mem_of_getElem? (i := 110) rfl)) rfl
theorem ml_As_83 : Cond.methodLink "GodWeathers$Asking" 83 k_As_begin.1 ∈ mm_ws := mm_in (mm_m4 (List.mem_of_getElem? (i := 114) rfl)) rfl
theorem ml_As_105 : Cond.methodLink "GodWeathers$Asking" 105 k_As_playOn.1 ∈ mm_ws := mm_in (mm_m4 (List.mem_of_getElem? (i := 115) rfl)) rfl
theorem ml_As_113 : Cond.methodLink "GodWeathers$Asking" 113 Lib.Math.max.name ∈ mm_ws := mm_in (mm_m4 (List.mem_of_getElem? (i := 119) rfl)) rfl
theorem ml_As_118 : Cond.methodLink "GodWeathers$Asking" 118 Lib.Math.min.name ∈ mm_ws := mm_in (mm_m4 (List.mem_of_getElem? (i := 120) rfl)) rfl
theorem ml_G_169 : Cond.methodLink "GodWeathers" 169 k_As_outcome.1 ∈ mm_ws := mm_in (mm_m4 (List.mem_of_getElem? (i := 121) rfl)) rfl
theorem ml_law_77 : Cond.methodLink "GodWeathersLaw" 77 k_G_waits.1 ∈ mm_ws := mm_in (mm_m4 (List.mem_of_getElem? (i := 122) rfl)) rfl
theorem ml_law_82 : Cond.methodLink "GodWeathersLaw" 82 k_G_fact.1 ∈ mm_ws := mm_in (mm_m4 (List.mem_of_getElem? (i := 127) rfl)) rfl
theorem ml_G_174 : Cond.methodLink "GodWeathers" 174 k_To_logAt.1 ∈ mm_ws := mm_in (mm_m4 (List.mem_of_getElem? (i := 131) rfl)) rfl
theorem ml_G_181 : Cond.methodLink "GodWeathers" 181 k_Lo_look.1 ∈ mm_ws := mm_in (mm_m4 (List.mem_of_getElem? (i := 135) rfl)) rfl
theorem ml_law_86 : Cond.methodLink "GodWeathersLaw" 86 k_G_fits.1 ∈ mm_ws := mm_in (mm_m4 (List.mem_of_getElem? (i := 139) rfl)) rfl
theorem ml_G_182 : Cond.methodLink "GodWeathers" 182 k_Lo_howManyHave.1 ∈ mm_ws := mm_in (mm_m4 (List.mem_of_getElem? (i := 143) rfl)) rfl
theorem ml_Lo_38 : Cond.methodLink "GodWeathers$Log" 38 k_Lo_allows.1 ∈ mm_ws := mm_in (mm_m4 (List.mem_of_getElem? (i := 147) rfl)) rfl
theorem ml_Lo_32 : Cond.methodLink "GodWeathers$Log" 32 k_Int_bitCount.1 ∈ mm_ws := mm_in (mm_m4 (List.mem_of_getElem? (i := 152) rfl)) rfl
theorem ml_G_185 : Cond.methodLink "GodWeathers" 185 k_Lo_inAll.1 ∈ mm_ws := mm_in (mm_m4 (List.mem_of_getElem? (i := 153) rfl)) rfl
theorem ml_G_189 : Cond.methodLink "GodWeathers" 189 k_Lo_bestQuestion.1 ∈ mm_ws := mm_in (mm_m4 (List.mem_of_getElem? (i := 157) rfl)) rfl
theorem ml_Lo_42 : Cond.methodLink "GodWeathers$Log" 42 k_Lo_howManyHave.1 ∈ mm_ws := mm_in (mm_m4 (List.mem_of_getElem? (i := 161) rfl)) rfl
theorem ml_Lo_45 : Cond.methodLink "GodWeathers$Log" 45 Lib.Math.max.name ∈ mm_ws := mm_in (mm_m4 (List.mem_of_getElem? (i := 162) rfl)) rfl
theorem ml_G_192 : Cond.methodLink "GodWeathers" 192 k_Lo_fitting.1 ∈ mm_ws := mm_in (mm_m4 (List.mem_of_getElem? (i := 163) rfl)) rfl
theorem ml_law_90 : Cond.methodLink "GodWeathersLaw" 90 k_G_whose.1 ∈ mm_ws := mm_in (mm_m4 (List.mem_of_getElem? (i := 167) rfl)) rfl
theorem ml_G_201 : Cond.methodLink "GodWeathers" 201 k_Lo_allows.1 ∈ mm_ws := mm_in (mm_m4 (List.mem_of_getElem? (i := 171) rfl)) rfl
theorem ml_law_94 : Cond.methodLink "GodWeathersLaw" 94 k_G_drawn.1 ∈ mm_ws := mm_in (mm_m4 (List.mem_of_getElem? (i := 172) rfl)) rfl
theorem ml_G_204 : Cond.methodLink "GodWeathers" 204 k_Da_draw.1 ∈ mm_ws := mm_in (mm_m4 (List.mem_of_getElem? (i := 176) rfl)) rfl
theorem ml_Da_99 : Cond.methodLink "GodWeathers$Days" 99 k_Da_drawDeed.1 ∈ mm_ws := mm_in (mm_m4 (List.mem_of_getElem? (i := 180) rfl)) rfl
theorem ml_Da_103 : Cond.methodLink "GodWeathers$Days" 103 k_Da_drawBelow.1 ∈ mm_ws := mm_in (mm_m4 (List.mem_of_getElem? (i := 184) rfl)) rfl
theorem ml_Da_111 : Cond.methodLink "GodWeathers$Days" 111 k_Da_godparentAt.1 ∈ mm_ws := mm_in (mm_m4 (List.mem_of_getElem? (i := 189) rfl)) rfl
theorem ml_law_98 : Cond.methodLink "GodWeathersLaw" 98 k_G_kin.1 ∈ mm_ws := mm_in (mm_m4 (List.mem_of_getElem? (i := 193) rfl)) rfl
theorem ml_G_208 : Cond.methodLink "GodWeathers" 208 k_To_coastWithChild.1 ∈ mm_ws := mm_in (mm_m4 (List.mem_of_getElem? (i := 197) rfl)) rfl
theorem ml_To_94 : Cond.methodLink "GodWeathers$Told" 94 k_Co_hasChild.1 ∈ mm_ws := mm_in (mm_m4 (List.mem_of_getElem? (i := 201) rfl)) rfl
theorem ml_G_214 : Cond.methodLink "GodWeathers" 214 k_Cr_shared.1 ∈ mm_ws := mm_in (mm_m4 (List.mem_of_getElem? (i := 202) rfl)) rfl
theorem ml_law_102 : Cond.methodLink "GodWeathersLaw" 102 k_G_clan.1 ∈ mm_ws := mm_in (mm_m4 (List.mem_of_getElem? (i := 205) rfl)) rfl
theorem ml_G_218 : Cond.methodLink "GodWeathers" 218 k_Cr_howManyClans.1 ∈ mm_ws := mm_in (mm_m4 (List.mem_of_getElem? (i := 209) rfl)) rfl
theorem ml_Cr_39 : Cond.methodLink "GodWeathers$Crew" 39 k_Cr_clanOf.1 ∈ mm_ws := mm_in (mm_m4 (List.mem_of_getElem? (i := 212) rfl)) rfl
theorem ml_Cr_42 : Cond.methodLink "GodWeathers$Crew" 42 k_Int_numberOfTrailingZeros.1 ∈ mm_ws := mm_in (mm_m4 (List.mem_of_getElem? (i := 215) rfl)) rfl
theorem ml_G_221 : Cond.methodLink "GodWeathers" 221 k_Cr_twins.1 ∈ mm_ws := mm_in (mm_m4 (List.mem_of_getElem? (i := 216) rfl)) rfl
theorem ml_Cr_45 : Cond.methodLink "GodWeathers$Crew" 45 k_Cr_shared.1 ∈ mm_ws := mm_in (mm_m4 (List.mem_of_getElem? (i := 219) rfl)) rfl
theorem ml_G_224 : Cond.methodLink "GodWeathers" 224 k_Cr_largestRaft.1 ∈ mm_ws := mm_in (mm_m4 (List.mem_of_getElem? (i := 220) rfl)) rfl
theorem ml_G_227 : Cond.methodLink "GodWeathers" 227 k_Cr_mostCouples.1 ∈ mm_ws := mm_in (mm_m4 (List.mem_of_getElem? (i := 223) rfl)) rfl
theorem ml_Cr_49 : Cond.methodLink "GodWeathers$Crew" 49 k_Cr_mostCouplesFrom.1 ∈ mm_ws := mm_in (mm_m4 (List.mem_of_getElem? (i := 226) rfl)) rfl
theorem ml_Cr_52 : Cond.methodLink "GodWeathers$Crew" 52 Lib.Math.max.name ∈ mm_ws := mm_in (mm_m4 (List.mem_of_getElem? (i := 229) rfl)) rfl
theorem ml_G_230 : Cond.methodLink "GodWeathers" 230 k_Sk_rivals.1 ∈ mm_ws := mm_in (mm_m4 (List.mem_of_getElem? (i := 230) rfl)) rfl
theorem ml_Sk_27 : Cond.methodLink "GodWeathers$Sky" 27 k_Int_bitCount.1 ∈ mm_ws := mm_in (mm_m4 (List.mem_of_getElem? (i := 233) rfl)) rfl
theorem ml_G_233 : Cond.methodLink "GodWeathers" 233 k_Sk_largestCalm.1 ∈ mm_ws := mm_in (mm_m4 (List.mem_of_getElem? (i := 234) rfl)) rfl
theorem ml_Sk_33 : Cond.methodLink "GodWeathers$Sky" 33 k_Sk_isCalm.1 ∈ mm_ws := mm_in (mm_m4 (List.mem_of_getElem? (i := 237) rfl)) rfl
theorem ml_G_236 : Cond.methodLink "GodWeathers" 236 k_Cr_clanOf.1 ∈ mm_ws := mm_in (mm_m5 (List.mem_of_getElem? (i := 1) rfl)) rfl
theorem ml_law_106 : Cond.methodLink "GodWeathersLaw" 106 k_G_lone.1 ∈ mm_ws := mm_in (mm_m5 (List.mem_of_getElem? (i := 2) rfl)) rfl
theorem ml_G_239 : Cond.methodLink "GodWeathers" 239 k_Co_dearest.1 ∈ mm_ws := mm_in (mm_m5 (List.mem_of_getElem? (i := 6) rfl)) rfl
theorem ml_G_242 : Cond.methodLink "GodWeathers" 242 k_Cr_loners.1 ∈ mm_ws := mm_in (mm_m5 (List.mem_of_getElem? (i := 10) rfl)) rfl
theorem ml_law_110 : Cond.methodLink "GodWeathersLaw" 110 k_G_near.1 ∈ mm_ws := mm_in (mm_m5 (List.mem_of_getElem? (i := 13) rfl)) rfl
theorem ml_law_114 : Cond.methodLink "GodWeathersLaw" 114 k_G_ladder.1 ∈ mm_ws := mm_in (mm_m5 (List.mem_of_getElem? (i := 17) rfl)) rfl
theorem ml_G_245 : Cond.methodLink "GodWeathers" 245 k_Sk_longestLadder.1 ∈ mm_ws := mm_in (mm_m5 (List.mem_of_getElem? (i := 21) rfl)) rfl
theorem ml_Sk_52 : Cond.methodLink "GodWeathers$Sky" 52 k_Sk_climb.1 ∈ mm_ws := mm_in (mm_m5 (List.mem_of_getElem? (i := 25) rfl)) rfl
theorem ml_Sk_56 : Cond.methodLink "GodWeathers$Sky" 56 arraycopyName ∈ mm_ws := mm_in (mm_m5 (List.mem_of_getElem? (i := 29) rfl)) rfl
theorem ml_law_118 : Cond.methodLink "GodWeathersLaw" 118 k_G_storm.1 ∈ mm_ws := mm_in (mm_m5 (List.mem_of_getElem? (i := 30) rfl)) rfl
theorem ml_G_250 : Cond.methodLink "GodWeathers" 250 k_Sk_waysToCome.1 ∈ mm_ws := mm_in (mm_m5 (List.mem_of_getElem? (i := 34) rfl)) rfl
theorem ml_Sk_62 : Cond.methodLink "GodWeathers$Sky" 62 k_Arr_fillJ.1 ∈ mm_ws := mm_in (mm_m5 (List.mem_of_getElem? (i := 38) rfl)) rfl
theorem ml_Sk_71 : Cond.methodLink "GodWeathers$Sky" 71 Lib.Math.max.name ∈ mm_ws := mm_in (mm_m5 (List.mem_of_getElem? (i := 41) rfl)) rfl
theorem ml_law_123 : Cond.methodLink "GodWeathersLaw" 123 k_G_lack.1 ∈ mm_ws := mm_in (mm_m5 (List.mem_of_getElem? (i := 43) rfl)) rfl
theorem ml_G_259 : Cond.methodLink "GodWeathers" 259 k_Cr_weathersOf.1 ∈ mm_ws := mm_in (mm_m5 (List.mem_of_getElem? (i := 47) rfl)) rfl
theorem ml_law_127 : Cond.methodLink "GodWeathersLaw" 127 k_G_busy.1 ∈ mm_ws := mm_in (mm_m5 (List.mem_of_getElem? (i := 48) rfl)) rfl
theorem ml_law_131 : Cond.methodLink "GodWeathersLaw" 131 k_G_lots.1 ∈ mm_ws := mm_in (mm_m5 (List.mem_of_getElem? (i := 52) rfl)) rfl
theorem ml_G_264 : Cond.methodLink "GodWeathers" 264 k_As_luckyRows.1 ∈ mm_ws := mm_in (mm_m5 (List.mem_of_getElem? (i := 57) rfl)) rfl
theorem ml_As_94 : Cond.methodLink "GodWeathers$Asking" 94 k_As_luckyRowsFrom.1 ∈ mm_ws := mm_in (mm_m5 (List.mem_of_getElem? (i := 60) rfl)) rfl
theorem ml_law_135 : Cond.methodLink "GodWeathersLaw" 135 k_G_heir.1 ∈ mm_ws := mm_in (mm_m5 (List.mem_of_getElem? (i := 63) rfl)) rfl
theorem ml_law_139 : Cond.methodLink "GodWeathersLaw" 139 k_G_plan.1 ∈ mm_ws := mm_in (mm_m5 (List.mem_of_getElem? (i := 67) rfl)) rfl
theorem ml_G_274 : Cond.methodLink "GodWeathers" 274 k_As_setsOfOneDay.1 ∈ mm_ws := mm_in (mm_m5 (List.mem_of_getElem? (i := 71) rfl)) rfl
theorem ml_As_87 : Cond.methodLink "GodWeathers$Asking" 87 k_Co_allChildren.1 ∈ mm_ws := mm_in (mm_m5 (List.mem_of_getElem? (i := 75) rfl)) rfl
theorem ml_As_91 : Cond.methodLink "GodWeathers$Asking" 91 k_As_most.1 ∈ mm_ws := mm_in (mm_m5 (List.mem_of_getElem? (i := 76) rfl)) rfl
theorem ml_G_278 : Cond.methodLink "GodWeathers" 278 k_G_unionOf.1 ∈ mm_ws := mm_in (mm_m5 (List.mem_of_getElem? (i := 77) rfl)) rfl
theorem ml_G_282 : Cond.methodLink "GodWeathers" 282 k_Co_allWorks.1 ∈ mm_ws := mm_in (mm_m5 (List.mem_of_getElem? (i := 80) rfl)) rfl
theorem ml_G_285 : Cond.methodLink "GodWeathers" 285 k_G_fewestDays.1 ∈ mm_ws := mm_in (mm_m5 (List.mem_of_getElem? (i := 81) rfl)) rfl
theorem ml_G_340 : Cond.methodLink "GodWeathers" 340 k_G_oneDayMore.1 ∈ mm_ws := mm_in (mm_m5 (List.mem_of_getElem? (i := 84) rfl)) rfl
theorem ml_law_143 : Cond.methodLink "GodWeathersLaw" 143 k_G_levy.1 ∈ mm_ws := mm_in (mm_m5 (List.mem_of_getElem? (i := 87) rfl)) rfl
theorem ml_G_289 : Cond.methodLink "GodWeathers" 289 k_Co_dearestApart.1 ∈ mm_ws := mm_in (mm_m5 (List.mem_of_getElem? (i := 91) rfl)) rfl
theorem ml_Co_65 : Cond.methodLink "GodWeathers$Coast" 65 k_Co_allWorks.1 ∈ mm_ws := mm_in (mm_m5 (List.mem_of_getElem? (i := 95) rfl)) rfl
theorem ml_Co_69 : Cond.methodLink "GodWeathers$Coast" 69 k_Int_bitCount.1 ∈ mm_ws := mm_in (mm_m5 (List.mem_of_getElem? (i := 96) rfl)) rfl
theorem ml_Co_75 : Cond.methodLink "GodWeathers$Coast" 75 k_Co_needApart.1 ∈ mm_ws := mm_in (mm_m5 (List.mem_of_getElem? (i := 97) rfl)) rfl
theorem ml_Co_78 : Cond.methodLink "GodWeathers$Coast" 78 k_Co_worthOf.1 ∈ mm_ws := mm_in (mm_m5 (List.mem_of_getElem? (i := 101) rfl)) rfl
theorem ml_Co_81 : Cond.methodLink "GodWeathers$Coast" 81 Lib.Math.max.name ∈ mm_ws := mm_in (mm_m5 (List.mem_of_getElem? (i := 102) rfl)) rfl
theorem ml_law_147 : Cond.methodLink "GodWeathersLaw" 147 k_G_ready.1 ∈ mm_ws := mm_in (mm_m5 (List.mem_of_getElem? (i := 103) rfl)) rfl
theorem ml_G_292 : Cond.methodLink "GodWeathers" 292 k_Co_worksWith.1 ∈ mm_ws := mm_in (mm_m5 (List.mem_of_getElem? (i := 107) rfl)) rfl
theorem ml_law_151 : Cond.methodLink "GodWeathersLaw" 151 k_G_hope.1 ∈ mm_ws := mm_in (mm_m5 (List.mem_of_getElem? (i := 108) rfl)) rfl
theorem ml_law_155 : Cond.methodLink "GodWeathersLaw" 155 k_G_pair.1 ∈ mm_ws := mm_in (mm_m5 (List.mem_of_getElem? (i := 112) rfl)) rfl
theorem ml_law_159 : Cond.methodLink "GodWeathersLaw" 159 k_G_seat.1 ∈ mm_ws := mm_in (mm_m5 (List.mem_of_getElem? (i := 116) rfl)) rfl
theorem ml_law_163 : Cond.methodLink "GodWeathersLaw" 163 k_G_tide.1 ∈ mm_ws := mm_in (mm_m5 (List.mem_of_getElem? (i := 120) rfl)) rfl
theorem ml_G_298 : Cond.methodLink "GodWeathers" 298 k_Co_worthOf.1 ∈ mm_ws := mm_in (mm_m5 (List.mem_of_getElem? (i := 124) rfl)) rfl
theorem ml_law_167 : Cond.methodLink "GodWeathersLaw" 167 k_G_first.1 ∈ mm_ws := mm_in (mm_m5 (List.mem_of_getElem? (i := 125) rfl)) rfl
theorem ml_G_301 : Cond.methodLink "GodWeathers" 301 k_Co_isGodparent.1 ∈ mm_ws := mm_in (mm_m5 (List.mem_of_getElem? (i := 129) rfl)) rfl
theorem ml_law_171 : Cond.methodLink "GodWeathersLaw" 171 k_G_kept.1 ∈ mm_ws := mm_in (mm_m5 (List.mem_of_getElem? (i := 130) rfl)) rfl
theorem ml_law_175 : Cond.methodLink "GodWeathersLaw" 175 k_G_after.1 ∈ mm_ws := mm_in (mm_m5 (List.mem_of_getElem? (i := 134) rfl)) rfl
theorem ml_G_317 : Cond.methodLink "GodWeathers" 317 k_Da_eager.1 ∈ mm_ws := mm_in (mm_m5 (List.mem_of_getElem? (i := 138) rfl)) rfl
theorem ml_law_179 : Cond.methodLink "GodWeathersLaw" 179 k_G_share.1 ∈ mm_ws := mm_in (mm_m5 (List.mem_of_getElem? (i := 142) rfl)) rfl
theorem ml_G_326 : Cond.methodLink "GodWeathers" 326 k_G_isWeather.1 ∈ mm_ws := mm_in (mm_m5 (List.mem_of_getElem? (i := 146) rfl)) rfl
theorem ml_law_183 : Cond.methodLink "GodWeathersLaw" 183 k_G_count.1 ∈ mm_ws := mm_in (mm_m5 (List.mem_of_getElem? (i := 147) rfl)) rfl
theorem ml_G_329 : Cond.methodLink "GodWeathers" 329 k_G_isSort.1 ∈ mm_ws := mm_in (mm_m5 (List.mem_of_getElem? (i := 151) rfl)) rfl
theorem ml_law_187 : Cond.methodLink "GodWeathersLaw" 187 k_G_image.1 ∈ mm_ws := mm_in (mm_m5 (List.mem_of_getElem? (i := 152) rfl)) rfl
theorem ml_G_335 : Cond.methodLink "GodWeathers" 335 k_To_copyFrom.1 ∈ mm_ws := mm_in (mm_m5 (List.mem_of_getElem? (i := 156) rfl)) rfl
theorem ml_To_44 : Cond.methodLink "GodWeathers$Told" 44 arraycopyName ∈ mm_ws := mm_in (mm_m5 (List.mem_of_getElem? (i := 160) rfl)) rfl
theorem ml_law_192 : Cond.methodLink "GodWeathersLaw" 192 k_G_again.1 ∈ mm_ws := mm_in (mm_m5 (List.mem_of_getElem? (i := 161) rfl)) rfl
theorem ml_law_12 : Cond.methodLink "GodWeathersLaw" 12 k_M_init.1 ∈ mm_ws := mm_in (mm_m5 (List.mem_of_getElem? (i := 167) rfl)) rfl
theorem ml_M_1 : Cond.methodLink "GodWeathersModel" 1 objectInit ∈ mm_ws := mm_in (mm_m5 (List.mem_of_getElem? (i := 170) rfl)) rfl
theorem ml_law_17 : Cond.methodLink "GodWeathersLaw" 17 k_M_feed.1 ∈ mm_ws := mm_in (mm_m6 (List.mem_of_getElem? (i := 86) rfl)) rfl
theorem ml_M_98 : Cond.methodLink "GodWeathersModel" 98 k_M_four.1 ∈ mm_ws := mm_in (mm_m6 (List.mem_of_getElem? (i := 90) rfl)) rfl
theorem ml_law_22 : Cond.methodLink "GodWeathersLaw" 22 k_M_end.1 ∈ mm_ws := mm_in (mm_m6 (List.mem_of_getElem? (i := 94) rfl)) rfl
theorem ml_M_94 : Cond.methodLink "GodWeathersModel" 94 k_M_in.1 ∈ mm_ws := mm_in (mm_m6 (List.mem_of_getElem? (i := 98) rfl)) rfl
theorem ml_law_27 : Cond.methodLink "GodWeathersLaw" 27 k_M_text.1 ∈ mm_ws := mm_in (mm_m6 (List.mem_of_getElem? (i := 101) rfl)) rfl
theorem ml_M_222 : Cond.methodLink "GodWeathersModel" 222 k_M_is.1 ∈ mm_ws := mm_in (mm_m6 (List.mem_of_getElem? (i := 105) rfl)) rfl
theorem ml_M_225 : Cond.methodLink "GodWeathersModel" 225 k_M_readText.1 ∈ mm_ws := mm_in (mm_m6 (List.mem_of_getElem? (i := 109) rfl)) rfl
theorem ml_M_146 : Cond.methodLink "GodWeathersModel" 146 k_M_token.1 ∈ mm_ws := mm_in (mm_m6 (List.mem_of_getElem? (i := 113) rfl)) rfl
theorem ml_M_108 : Cond.methodLink "GodWeathersModel" 108 k_M_see.1 ∈ mm_ws := mm_in (mm_m6 (List.mem_of_getElem? (i := 117) rfl)) rfl
theorem ml_M_218 : Cond.methodLink "GodWeathersModel" 218 k_M_lines.1 ∈ mm_ws := mm_in (mm_m6 (List.mem_of_getElem? (i := 121) rfl)) rfl
theorem ml_M_208 : Cond.methodLink "GodWeathersModel" 208 k_M_coastLine.1 ∈ mm_ws := mm_in (mm_m6 (List.mem_of_getElem? (i := 125) rfl)) rfl
theorem ml_M_167 : Cond.methodLink "GodWeathersModel" 167 k_M_full.1 ∈ mm_ws := mm_in (mm_m6 (List.mem_of_getElem? (i := 131) rfl)) rfl
theorem ml_M_138 : Cond.methodLink "GodWeathersModel" 138 k_M_later.1 ∈ mm_ws := mm_in (mm_m6 (List.mem_of_getElem? (i := 135) rfl)) rfl
theorem ml_M_171 : Cond.methodLink "GodWeathersModel" 171 k_M_childLine.1 ∈ mm_ws := mm_in (mm_m6 (List.mem_of_getElem? (i := 139) rfl)) rfl
theorem ml_M_149 : Cond.methodLink "GodWeathersModel" 149 k_M_takeNew.1 ∈ mm_ws := mm_in (mm_m6 (List.mem_of_getElem? (i := 143) rfl)) rfl
theorem ml_M_134 : Cond.methodLink "GodWeathersModel" 134 k_M_fails.1 ∈ mm_ws := mm_in (mm_m6 (List.mem_of_getElem? (i := 147) rfl)) rfl
theorem ml_M_174 : Cond.methodLink "GodWeathersModel" 174 k_M_workLine.1 ∈ mm_ws := mm_in (mm_m6 (List.mem_of_getElem? (i := 151) rfl)) rfl
theorem ml_M_153 : Cond.methodLink "GodWeathersModel" 153 k_M_take.1 ∈ mm_ws := mm_in (mm_m6 (List.mem_of_getElem? (i := 155) rfl)) rfl
theorem ml_M_185 : Cond.methodLink "GodWeathersModel" 185 k_M_opposeLine.1 ∈ mm_ws := mm_in (mm_m6 (List.mem_of_getElem? (i := 163) rfl)) rfl
theorem ml_M_188 : Cond.methodLink "GodWeathersModel" 188 k_M_needsLine.1 ∈ mm_ws := mm_in (mm_m6 (List.mem_of_getElem? (i := 167) rfl)) rfl
theorem ml_M_159 : Cond.methodLink "GodWeathersModel" 159 k_M_greater.1 ∈ mm_ws := mm_in (mm_m6 (List.mem_of_getElem? (i := 171) rfl)) rfl
theorem ml_M_212 : Cond.methodLink "GodWeathersModel" 212 k_M_yearLine.1 ∈ mm_ws := mm_in (mm_m6 (List.mem_of_getElem? (i := 174) rfl)) rfl
theorem ml_M_201 : Cond.methodLink "GodWeathersModel" 201 k_M_keepRow.1 ∈ mm_ws := mm_in (mm_m6 (List.mem_of_getElem? (i := 183) rfl)) rfl
theorem ml_M_215 : Cond.methodLink "GodWeathersModel" 215 k_M_logLine.1 ∈ mm_ws := mm_in (mm_m6 (List.mem_of_getElem? (i := 187) rfl)) rfl
theorem ml_M_228 : Cond.methodLink "GodWeathersModel" 228 k_M_store.1 ∈ mm_ws := mm_in (mm_m6 (List.mem_of_getElem? (i := 193) rfl)) rfl
theorem ml_law_31 : Cond.methodLink "GodWeathersLaw" 31 k_M_fault.1 ∈ mm_ws := mm_in (mm_m6 (List.mem_of_getElem? (i := 197) rfl)) rfl
theorem ml_law_35 : Cond.methodLink "GodWeathersLaw" 35 k_M_coast.1 ∈ mm_ws := mm_in (mm_m6 (List.mem_of_getElem? (i := 201) rfl)) rfl
theorem ml_M_260 : Cond.methodLink "GodWeathersModel" 260 k_M_hand.1 ∈ mm_ws := mm_in (mm_m6 (List.mem_of_getElem? (i := 205) rfl)) rfl
theorem ml_M_235 : Cond.methodLink "GodWeathersModel" 235 k_M_of.1 ∈ mm_ws := mm_in (mm_m6 (List.mem_of_getElem? (i := 209) rfl)) rfl
theorem ml_M_263 : Cond.methodLink "GodWeathersModel" 263 k_M_gods.1 ∈ mm_ws := mm_in (mm_m6 (List.mem_of_getElem? (i := 213) rfl)) rfl
theorem ml_law_40 : Cond.methodLink "GodWeathersLaw" 40 k_M_deed.1 ∈ mm_ws := mm_in (mm_m6 (List.mem_of_getElem? (i := 217) rfl)) rfl
theorem ml_M_269 : Cond.methodLink "GodWeathersModel" 269 k_M_hasYear.1 ∈ mm_ws := mm_in (mm_m6 (List.mem_of_getElem? (i := 221) rfl)) rfl
theorem ml_M_272 : Cond.methodLink "GodWeathersModel" 272 k_M_deeds.1 ∈ mm_ws := mm_in (mm_m6 (List.mem_of_getElem? (i := 225) rfl)) rfl
theorem ml_M_275 : Cond.methodLink "GodWeathersModel" 275 k_M_deedOf.1 ∈ mm_ws := mm_in (mm_m6 (List.mem_of_getElem? (i := 229) rfl)) rfl
theorem ml_law_44 : Cond.methodLink "GodWeathersLaw" 44 k_M_till.1 ∈ mm_ws := mm_in (mm_m6 (List.mem_of_getElem? (i := 233) rfl)) rfl
theorem ml_M_305 : Cond.methodLink "GodWeathersModel" 305 k_M_layAll.1 ∈ mm_ws := mm_in (mm_m6 (List.mem_of_getElem? (i := 237) rfl)) rfl
theorem ml_M_308 : Cond.methodLink "GodWeathersModel" 308 k_M_play.1 ∈ mm_ws := mm_in (mm_m7 (List.mem_of_getElem? (i := 1) rfl)) rfl
theorem ml_M_302 : Cond.methodLink "GodWeathersModel" 302 k_M_doesDeed.1 ∈ mm_ws := mm_in (mm_m7 (List.mem_of_getElem? (i := 5) rfl)) rfl
theorem ml_M_299 : Cond.methodLink "GodWeathersModel" 299 k_M_does.1 ∈ mm_ws := mm_in (mm_m7 (List.mem_of_getElem? (i := 9) rfl)) rfl
theorem ml_M_284 : Cond.methodLink "GodWeathersModel" 284 k_M_asking.1 ∈ mm_ws := mm_in (mm_m7 (List.mem_of_getElem? (i := 13) rfl)) rfl
theorem ml_M_278 : Cond.methodLink "GodWeathersModel" 278 k_M_isChild.1 ∈ mm_ws := mm_in (mm_m7 (List.mem_of_getElem? (i := 17) rfl)) rfl
theorem ml_M_86 : Cond.methodLink "GodWeathersModel" 86 k_M_has.1 ∈ mm_ws := mm_in (mm_m7 (List.mem_of_getElem? (i := 21) rfl)) rfl
theorem ml_M_281 : Cond.methodLink "GodWeathersModel" 281 k_M_comes.1 ∈ mm_ws := mm_in (mm_m7 (List.mem_of_getElem? (i := 24) rfl)) rfl
theorem ml_M_287 : Cond.methodLink "GodWeathersModel" 287 k_M_thanking.1 ∈ mm_ws := mm_in (mm_m7 (List.mem_of_getElem? (i := 28) rfl)) rfl
theorem ml_M_290 : Cond.methodLink "GodWeathersModel" 290 k_M_isWork.1 ∈ mm_ws := mm_in (mm_m7 (List.mem_of_getElem? (i := 32) rfl)) rfl
theorem ml_M_293 : Cond.methodLink "GodWeathersModel" 293 k_M_readyBy.1 ∈ mm_ws := mm_in (mm_m7 (List.mem_of_getElem? (i := 36) rfl)) rfl
theorem ml_M_296 : Cond.methodLink "GodWeathersModel" 296 k_M_goesOn.1 ∈ mm_ws := mm_in (mm_m7 (List.mem_of_getElem? (i := 40) rfl)) rfl
theorem ml_law_49 : Cond.methodLink "GodWeathersLaw" 49 k_M_state.1 ∈ mm_ws := mm_in (mm_m7 (List.mem_of_getElem? (i := 44) rfl)) rfl
theorem ml_M_314 : Cond.methodLink "GodWeathersModel" 314 k_M_ofState.1 ∈ mm_ws := mm_in (mm_m7 (List.mem_of_getElem? (i := 48) rfl)) rfl
theorem ml_M_311 : Cond.methodLink "GodWeathersModel" 311 k_M_worthOf.1 ∈ mm_ws := mm_in (mm_m7 (List.mem_of_getElem? (i := 52) rfl)) rfl
theorem ml_law_53 : Cond.methodLink "GodWeathersLaw" 53 k_M_call.1 ∈ mm_ws := mm_in (mm_m7 (List.mem_of_getElem? (i := 56) rfl)) rfl
theorem ml_M_327 : Cond.methodLink "GodWeathersModel" 327 k_M_findCalls.1 ∈ mm_ws := mm_in (mm_m7 (List.mem_of_getElem? (i := 60) rfl)) rfl
theorem ml_M_320 : Cond.methodLink "GodWeathersModel" 320 k_M_ones.1 ∈ mm_ws := mm_in (mm_m7 (List.mem_of_getElem? (i := 64) rfl)) rfl
theorem ml_M_323 : Cond.methodLink "GodWeathersModel" 323 k_M_callBy.1 ∈ mm_ws := mm_in (mm_m7 (List.mem_of_getElem? (i := 67) rfl)) rfl
theorem ml_M_317 : Cond.methodLink "GodWeathersModel" 317 k_M_kth.1 ∈ mm_ws := mm_in (mm_m7 (List.mem_of_getElem? (i := 71) rfl)) rfl
theorem ml_law_57 : Cond.methodLink "GodWeathersLaw" 57 k_M_feast.1 ∈ mm_ws := mm_in (mm_m7 (List.mem_of_getElem? (i := 75) rfl)) rfl
theorem ml_M_342 : Cond.methodLink "GodWeathersModel" 342 k_M_feastOf.1 ∈ mm_ws := mm_in (mm_m7 (List.mem_of_getElem? (i := 79) rfl)) rfl
theorem ml_M_333 : Cond.methodLink "GodWeathersModel" 333 k_M_fours.1 ∈ mm_ws := mm_in (mm_m7 (List.mem_of_getElem? (i := 83) rfl)) rfl
theorem ml_M_336 : Cond.methodLink "GodWeathersModel" 336 k_M_hereBy.1 ∈ mm_ws := mm_in (mm_m7 (List.mem_of_getElem? (i := 86) rfl)) rfl
theorem ml_M_330 : Cond.methodLink "GodWeathersModel" 330 k_M_whom.1 ∈ mm_ws := mm_in (mm_m7 (List.mem_of_getElem? (i := 90) rfl)) rfl
theorem ml_law_62 : Cond.methodLink "GodWeathersLaw" 62 k_M_odds.1 ∈ mm_ws := mm_in (mm_m7 (List.mem_of_getElem? (i := 94) rfl)) rfl
theorem ml_M_360 : Cond.methodLink "GodWeathersModel" 360 k_M_chancesOf.1 ∈ mm_ws := mm_in (mm_m7 (List.mem_of_getElem? (i := 99) rfl)) rfl
theorem ml_M_363 : Cond.methodLink "GodWeathersModel" 363 k_M_part.1 ∈ mm_ws := mm_in (mm_m7 (List.mem_of_getElem? (i := 104) rfl)) rfl
theorem ml_M_346 : Cond.methodLink "GodWeathersModel" 346 k_M_common.1 ∈ mm_ws := mm_in (mm_m7 (List.mem_of_getElem? (i := 107) rfl)) rfl
theorem ml_law_67 : Cond.methodLink "GodWeathersLaw" 67 k_M_village.1 ∈ mm_ws := mm_in (mm_m7 (List.mem_of_getElem? (i := 110) rfl)) rfl
theorem ml_M_367 : Cond.methodLink "GodWeathersModel" 367 k_M_allGods.1 ∈ mm_ws := mm_in (mm_m7 (List.mem_of_getElem? (i := 114) rfl)) rfl
theorem ml_law_71 : Cond.methodLink "GodWeathersLaw" 71 k_M_boats.1 ∈ mm_ws := mm_in (mm_m7 (List.mem_of_getElem? (i := 118) rfl)) rfl
theorem ml_M_376 : Cond.methodLink "GodWeathersModel" 376 k_M_boatsOf.1 ∈ mm_ws := mm_in (mm_m7 (List.mem_of_getElem? (i := 122) rfl)) rfl
theorem ml_M_373 : Cond.methodLink "GodWeathersModel" 373 k_M_isRow.1 ∈ mm_ws := mm_in (mm_m7 (List.mem_of_getElem? (i := 126) rfl)) rfl
theorem ml_M_370 : Cond.methodLink "GodWeathersModel" 370 k_M_shares.1 ∈ mm_ws := mm_in (mm_m7 (List.mem_of_getElem? (i := 130) rfl)) rfl
theorem ml_law_76 : Cond.methodLink "GodWeathersLaw" 76 k_M_headland.1 ∈ mm_ws := mm_in (mm_m7 (List.mem_of_getElem? (i := 134) rfl)) rfl
theorem ml_M_379 : Cond.methodLink "GodWeathersModel" 379 k_M_rowsOf.1 ∈ mm_ws := mm_in (mm_m7 (List.mem_of_getElem? (i := 138) rfl)) rfl
theorem ml_M_388 : Cond.methodLink "GodWeathersModel" 388 k_M_endOf.1 ∈ mm_ws := mm_in (mm_m7 (List.mem_of_getElem? (i := 141) rfl)) rfl
theorem ml_M_382 : Cond.methodLink "GodWeathersModel" 382 k_M_choiceOf.1 ∈ mm_ws := mm_in (mm_m7 (List.mem_of_getElem? (i := 145) rfl)) rfl
theorem ml_M_391 : Cond.methodLink "GodWeathersModel" 391 k_M_fold.1 ∈ mm_ws := mm_in (mm_m7 (List.mem_of_getElem? (i := 149) rfl)) rfl
theorem ml_law_81 : Cond.methodLink "GodWeathersLaw" 81 k_M_waits.1 ∈ mm_ws := mm_in (mm_m7 (List.mem_of_getElem? (i := 153) rfl)) rfl
theorem ml_law_85 : Cond.methodLink "GodWeathersLaw" 85 k_M_fact.1 ∈ mm_ws := mm_in (mm_m7 (List.mem_of_getElem? (i := 157) rfl)) rfl
theorem ml_M_397 : Cond.methodLink "GodWeathersModel" 397 k_M_hasLog.1 ∈ mm_ws := mm_in (mm_m7 (List.mem_of_getElem? (i := 161) rfl)) rfl
theorem ml_M_400 : Cond.methodLink "GodWeathersModel" 400 k_M_facts.1 ∈ mm_ws := mm_in (mm_m7 (List.mem_of_getElem? (i := 165) rfl)) rfl
theorem ml_M_403 : Cond.methodLink "GodWeathersModel" 403 k_M_factOf.1 ∈ mm_ws := mm_in (mm_m7 (List.mem_of_getElem? (i := 169) rfl)) rfl
theorem ml_law_89 : Cond.methodLink "GodWeathersLaw" 89 k_M_fits.1 ∈ mm_ws := mm_in (mm_m7 (List.mem_of_getElem? (i := 173) rfl)) rfl
theorem ml_M_419 : Cond.methodLink "GodWeathersModel" 419 k_M_layLog.1 ∈ mm_ws := mm_in (mm_m7 (List.mem_of_getElem? (i := 177) rfl)) rfl
theorem ml_M_409 : Cond.methodLink "GodWeathersModel" 409 k_M_isFit.1 ∈ mm_ws := mm_in (mm_m7 (List.mem_of_getElem? (i := 181) rfl)) rfl
theorem ml_M_422 : Cond.methodLink "GodWeathersModel" 422 k_M_sure.1 ∈ mm_ws := mm_in (mm_m7 (List.mem_of_getElem? (i := 185) rfl)) rfl
theorem ml_M_425 : Cond.methodLink "GodWeathersModel" 425 k_M_next.1 ∈ mm_ws := mm_in (mm_m7 (List.mem_of_getElem? (i := 189) rfl)) rfl
theorem ml_M_413 : Cond.methodLink "GodWeathersModel" 413 k_M_manyHave.1 ∈ mm_ws := mm_in (mm_m7 (List.mem_of_getElem? (i := 194) rfl)) rfl
theorem ml_M_416 : Cond.methodLink "GodWeathersModel" 416 k_M_lesser.1 ∈ mm_ws := mm_in (mm_m7 (List.mem_of_getElem? (i := 198) rfl)) rfl
theorem ml_law_93 : Cond.methodLink "GodWeathersLaw" 93 k_M_whose.1 ∈ mm_ws := mm_in (mm_m7 (List.mem_of_getElem? (i := 201) rfl)) rfl
theorem ml_law_97 : Cond.methodLink "GodWeathersLaw" 97 k_M_drawn.1 ∈ mm_ws := mm_in (mm_m7 (List.mem_of_getElem? (i := 205) rfl)) rfl
theorem ml_M_435 : Cond.methodLink "GodWeathersModel" 435 k_M_drawDeed.1 ∈ mm_ws := mm_in (mm_m7 (List.mem_of_getElem? (i := 209) rfl)) rfl
theorem ml_M_432 : Cond.methodLink "GodWeathersModel" 432 k_M_draw.1 ∈ mm_ws := mm_in (mm_m7 (List.mem_of_getElem? (i := 213) rfl)) rfl
theorem ml_law_101 : Cond.methodLink "GodWeathersLaw" 101 k_M_kin.1 ∈ mm_ws := mm_in (mm_m7 (List.mem_of_getElem? (i := 218) rfl)) rfl
theorem ml_law_105 : Cond.methodLink "GodWeathersLaw" 105 k_M_clan.1 ∈ mm_ws := mm_in (mm_m7 (List.mem_of_getElem? (i := 222) rfl)) rfl
theorem ml_M_438 : Cond.methodLink "GodWeathersModel" 438 k_M_clanOf.1 ∈ mm_ws := mm_in (mm_m7 (List.mem_of_getElem? (i := 226) rfl)) rfl
theorem ml_M_441 : Cond.methodLink "GodWeathersModel" 441 k_M_clans.1 ∈ mm_ws := mm_in (mm_m7 (List.mem_of_getElem? (i := 230) rfl)) rfl
theorem ml_M_444 : Cond.methodLink "GodWeathersModel" 444 k_M_twins.1 ∈ mm_ws := mm_in (mm_m7 (List.mem_of_getElem? (i := 234) rfl)) rfl
theorem ml_M_447 : Cond.methodLink "GodWeathersModel" 447 k_M_raft.1 ∈ mm_ws := mm_in (mm_m7 (List.mem_of_getElem? (i := 238) rfl)) rfl
theorem ml_M_450 : Cond.methodLink "GodWeathersModel" 450 k_M_couples.1 ∈ mm_ws := mm_in (mm_m8 (List.mem_of_getElem? (i := 2) rfl)) rfl
theorem ml_M_453 : Cond.methodLink "GodWeathersModel" 453 k_M_rivals.1 ∈ mm_ws := mm_in (mm_m8 (List.mem_of_getElem? (i := 6) rfl)) rfl
theorem ml_M_456 : Cond.methodLink "GodWeathersModel" 456 k_M_calm.1 ∈ mm_ws := mm_in (mm_m8 (List.mem_of_getElem? (i := 10) rfl)) rfl
theorem ml_law_109 : Cond.methodLink "GodWeathersLaw" 109 k_M_lone.1 ∈ mm_ws := mm_in (mm_m8 (List.mem_of_getElem? (i := 14) rfl)) rfl
theorem ml_M_459 : Cond.methodLink "GodWeathersModel" 459 k_M_dearest.1 ∈ mm_ws := mm_in (mm_m8 (List.mem_of_getElem? (i := 18) rfl)) rfl
theorem ml_law_113 : Cond.methodLink "GodWeathersLaw" 113 k_M_near.1 ∈ mm_ws := mm_in (mm_m8 (List.mem_of_getElem? (i := 22) rfl)) rfl
theorem ml_law_117 : Cond.methodLink "GodWeathersLaw" 117 k_M_ladder.1 ∈ mm_ws := mm_in (mm_m8 (List.mem_of_getElem? (i := 26) rfl)) rfl
theorem ml_M_466 : Cond.methodLink "GodWeathersModel" 466 k_M_findRungs.1 ∈ mm_ws := mm_in (mm_m8 (List.mem_of_getElem? (i := 30) rfl)) rfl
theorem ml_M_462 : Cond.methodLink "GodWeathersModel" 462 k_M_rungBy.1 ∈ mm_ws := mm_in (mm_m8 (List.mem_of_getElem? (i := 34) rfl)) rfl
theorem ml_law_122 : Cond.methodLink "GodWeathersLaw" 122 k_M_storm.1 ∈ mm_ws := mm_in (mm_m8 (List.mem_of_getElem? (i := 38) rfl)) rfl
theorem ml_law_126 : Cond.methodLink "GodWeathersLaw" 126 k_M_lack.1 ∈ mm_ws := mm_in (mm_m8 (List.mem_of_getElem? (i := 42) rfl)) rfl
theorem ml_law_130 : Cond.methodLink "GodWeathersLaw" 130 k_M_busy.1 ∈ mm_ws := mm_in (mm_m8 (List.mem_of_getElem? (i := 46) rfl)) rfl
theorem ml_law_134 : Cond.methodLink "GodWeathersLaw" 134 k_M_lots.1 ∈ mm_ws := mm_in (mm_m8 (List.mem_of_getElem? (i := 50) rfl)) rfl
theorem ml_M_469 : Cond.methodLink "GodWeathersModel" 469 k_M_allAsk.1 ∈ mm_ws := mm_in (mm_m8 (List.mem_of_getElem? (i := 54) rfl)) rfl
theorem ml_law_138 : Cond.methodLink "GodWeathersLaw" 138 k_M_heir.1 ∈ mm_ws := mm_in (mm_m8 (List.mem_of_getElem? (i := 58) rfl)) rfl
theorem ml_law_142 : Cond.methodLink "GodWeathersLaw" 142 k_M_plan.1 ∈ mm_ws := mm_in (mm_m8 (List.mem_of_getElem? (i := 62) rfl)) rfl
theorem ml_M_472 : Cond.methodLink "GodWeathersModel" 472 k_M_doable.1 ∈ mm_ws := mm_in (mm_m8 (List.mem_of_getElem? (i := 66) rfl)) rfl
theorem ml_M_475 : Cond.methodLink "GodWeathersModel" 475 k_M_planDays.1 ∈ mm_ws := mm_in (mm_m8 (List.mem_of_getElem? (i := 70) rfl)) rfl
theorem ml_law_146 : Cond.methodLink "GodWeathersLaw" 146 k_M_levy.1 ∈ mm_ws := mm_in (mm_m8 (List.mem_of_getElem? (i := 74) rfl)) rfl
theorem ml_law_150 : Cond.methodLink "GodWeathersLaw" 150 k_M_ready.1 ∈ mm_ws := mm_in (mm_m8 (List.mem_of_getElem? (i := 78) rfl)) rfl
theorem ml_law_154 : Cond.methodLink "GodWeathersLaw" 154 k_M_hope.1 ∈ mm_ws := mm_in (mm_m8 (List.mem_of_getElem? (i := 82) rfl)) rfl
theorem ml_law_158 : Cond.methodLink "GodWeathersLaw" 158 k_M_pair.1 ∈ mm_ws := mm_in (mm_m8 (List.mem_of_getElem? (i := 86) rfl)) rfl
theorem ml_law_162 : Cond.methodLink "GodWeathersLaw" 162 k_M_seat.1 ∈ mm_ws := mm_in (mm_m8 (List.mem_of_getElem? (i := 90) rfl)) rfl
theorem ml_law_166 : Cond.methodLink "GodWeathersLaw" 166 k_M_tide.1 ∈ mm_ws := mm_in (mm_m8 (List.mem_of_getElem? (i := 94) rfl)) rfl
theorem ml_law_170 : Cond.methodLink "GodWeathersLaw" 170 k_M_first.1 ∈ mm_ws := mm_in (mm_m8 (List.mem_of_getElem? (i := 98) rfl)) rfl
theorem ml_law_174 : Cond.methodLink "GodWeathersLaw" 174 k_M_kept.1 ∈ mm_ws := mm_in (mm_m8 (List.mem_of_getElem? (i := 102) rfl)) rfl
theorem ml_law_178 : Cond.methodLink "GodWeathersLaw" 178 k_M_after.1 ∈ mm_ws := mm_in (mm_m8 (List.mem_of_getElem? (i := 106) rfl)) rfl
theorem ml_M_478 : Cond.methodLink "GodWeathersModel" 478 k_M_firstCross.1 ∈ mm_ws := mm_in (mm_m8 (List.mem_of_getElem? (i := 110) rfl)) rfl
theorem ml_M_481 : Cond.methodLink "GodWeathersModel" 481 k_M_eager.1 ∈ mm_ws := mm_in (mm_m8 (List.mem_of_getElem? (i := 114) rfl)) rfl
theorem ml_law_182 : Cond.methodLink "GodWeathersLaw" 182 k_M_share.1 ∈ mm_ws := mm_in (mm_m8 (List.mem_of_getElem? (i := 118) rfl)) rfl
theorem ml_law_186 : Cond.methodLink "GodWeathersLaw" 186 k_M_count.1 ∈ mm_ws := mm_in (mm_m8 (List.mem_of_getElem? (i := 122) rfl)) rfl
theorem ml_law_191 : Cond.methodLink "GodWeathersLaw" 191 k_M_image.1 ∈ mm_ws := mm_in (mm_m8 (List.mem_of_getElem? (i := 126) rfl)) rfl
theorem ml_M_484 : Cond.methodLink "GodWeathersModel" 484 k_M_copyAll.1 ∈ mm_ws := mm_in (mm_m8 (List.mem_of_getElem? (i := 130) rfl)) rfl
theorem ml_M_90 : Cond.methodLink "GodWeathersModel" 90 k_M_copyRow.1 ∈ mm_ws := mm_in (mm_m8 (List.mem_of_getElem? (i := 134) rfl)) rfl
theorem ml_law_195 : Cond.methodLink "GodWeathersLaw" 195 k_M_again.1 ∈ mm_ws := mm_in (mm_m8 (List.mem_of_getElem? (i := 137) rfl)) rfl
theorem ml_G_9 : Cond.methodLinkNest "GodWeathers" 9 k_To_init.1 "GodWeathers" ∈ mm_nest := List.mem_filter.mpr ⟨mm_m1 (List.mem_of_getElem? (i := 31) rfl), rfl⟩
theorem ml_To_17 : Cond.methodLinkNest "GodWeathers$Told" 17 k_Co_init.1 "GodWeathers" ∈ mm_nest := List.mem_filter.mpr ⟨mm_m1 (List.mem_of_getElem? (i := 38) rfl), rfl⟩
theorem ml_To_24 : Cond.methodLinkNest "GodWeathers$Told" 24 k_Ye_init.1 "GodWeathers" ∈ mm_nest := List.mem_filter.mpr ⟨mm_m1 (List.mem_of_getElem? (i := 95) rfl), rfl⟩
theorem ml_To_31 : Cond.methodLinkNest "GodWeathers$Told" 31 k_Lo_init.1 "GodWeathers" ∈ mm_nest := List.mem_filter.mpr ⟨mm_m1 (List.mem_of_getElem? (i := 121) rfl), rfl⟩
theorem ml_G_22 : Cond.methodLinkNest "GodWeathers" 22 k_Re_init.1 "GodWeathers" ∈ mm_nest := List.mem_filter.mpr ⟨mm_m1 (List.mem_of_getElem? (i := 170) rfl), rfl⟩
theorem ml_Re_11 : Cond.methodLinkNest "GodWeathers$Reader" 11 k_Co_init.1 "GodWeathers" ∈ mm_nest := List.mem_filter.mpr ⟨mm_m1 (List.mem_of_getElem? (i := 175) rfl), rfl⟩
theorem ml_Re_20 : Cond.methodLinkNest "GodWeathers$Reader" 20 k_Ye_init.1 "GodWeathers" ∈ mm_nest := List.mem_filter.mpr ⟨mm_m1 (List.mem_of_getElem? (i := 177) rfl), rfl⟩
theorem ml_Re_27 : Cond.methodLinkNest "GodWeathers$Reader" 27 k_Lo_init.1 "GodWeathers" ∈ mm_nest := List.mem_filter.mpr ⟨mm_m1 (List.mem_of_getElem? (i := 179) rfl), rfl⟩
theorem ml_G_29 : Cond.methodLinkNest "GodWeathers" 29 k_Da_init.1 "GodWeathers" ∈ mm_nest := List.mem_filter.mpr ⟨mm_m1 (List.mem_of_getElem? (i := 233) rfl), rfl⟩
theorem ml_G_36 : Cond.methodLinkNest "GodWeathers" 36 k_As_init.1 "GodWeathers" ∈ mm_nest := List.mem_filter.mpr ⟨mm_m2 (List.mem_of_getElem? (i := 47) rfl), rfl⟩
theorem ml_G_43 : Cond.methodLinkNest "GodWeathers" 43 k_Bo_init.1 "GodWeathers" ∈ mm_nest := List.mem_filter.mpr ⟨mm_m2 (List.mem_of_getElem? (i := 83) rfl), rfl⟩
theorem ml_G_50 : Cond.methodLinkNest "GodWeathers" 50 k_Sk_init.1 "GodWeathers" ∈ mm_nest := List.mem_filter.mpr ⟨mm_m2 (List.mem_of_getElem? (i := 106) rfl), rfl⟩
theorem ml_To_66 : Cond.methodLinkNest "GodWeathers$Told" 66 k_G_isSort.1 "GodWeathers" ∈ mm_nest := List.mem_filter.mpr ⟨mm_m2 (List.mem_of_getElem? (i := 173) rfl), rfl⟩
theorem ml_Co_49 : Cond.methodLinkNest "GodWeathers$Coast" 49 k_G_isWeather.1 "GodWeathers" ∈ mm_nest := List.mem_filter.mpr ⟨mm_m3 (List.mem_of_getElem? (i := 135) rfl), rfl⟩
theorem ml_Co_59 : Cond.methodLinkNest "GodWeathers$Coast" 59 k_G_has.1 "GodWeathers" ∈ mm_nest := List.mem_filter.mpr ⟨mm_m3 (List.mem_of_getElem? (i := 184) rfl), rfl⟩
theorem ml_Da_138 : Cond.methodLinkNest "GodWeathers$Days" 138 k_G_has.1 "GodWeathers" ∈ mm_nest := List.mem_filter.mpr ⟨mm_m3 (List.mem_of_getElem? (i := 187) rfl), rfl⟩
theorem ml_As_66 : Cond.methodLinkNest "GodWeathers$Asking" 66 k_G_has.1 "GodWeathers" ∈ mm_nest := List.mem_filter.mpr ⟨mm_m4 (List.mem_of_getElem? (i := 16) rfl), rfl⟩
theorem ml_Cr_25 : Cond.methodLinkNest "GodWeathers$Crew" 25 k_G_has.1 "GodWeathers" ∈ mm_nest := List.mem_filter.mpr ⟨mm_m4 (List.mem_of_getElem? (i := 86) rfl), rfl⟩
theorem ml_Lo_28 : Cond.methodLinkNest "GodWeathers$Log" 28 k_G_has.1 "GodWeathers" ∈ mm_nest := List.mem_filter.mpr ⟨mm_m4 (List.mem_of_getElem? (i := 151) rfl), rfl⟩
theorem ml_Sk_37 : Cond.methodLinkNest "GodWeathers$Sky" 37 k_G_has.1 "GodWeathers" ∈ mm_nest := List.mem_filter.mpr ⟨mm_m5 (List.mem_of_getElem? (i := 0) rfl), rfl⟩
theorem im_As_init : Cond.instanceMethod k_As_init.1 ∈ mm_ws := mm_in (mm_m2 (List.mem_of_getElem? (i := 48) rfl)) rfl
theorem im_As_begin : Cond.instanceMethod k_As_begin.1 ∈ mm_ws := mm_in (mm_m4 (List.mem_of_getElem? (i := 28) rfl)) rfl
theorem se_As_begin : Cond.selects (mm_R 0) k_As_begin.1 k_As_begin.1 ∈ mm_ws := mm_in (mm_m4 (List.mem_of_getElem? (i := 29) rfl)) rfl
theorem im_As_most : Cond.instanceMethod k_As_most.1 ∈ mm_ws := mm_in (mm_m4 (List.mem_of_getElem? (i := 42) rfl)) rfl
theorem se_As_most : Cond.selects (mm_R 0) k_As_most.1 k_As_most.1 ∈ mm_ws := mm_in (mm_m4 (List.mem_of_getElem? (i := 43) rfl)) rfl
theorem im_As_walk : Cond.instanceMethod k_As_walk.1 ∈ mm_ws := mm_in (mm_m4 (List.mem_of_getElem? (i := 47) rfl)) rfl
theorem se_As_walk : Cond.selects (mm_R 0) k_As_walk.1 k_As_walk.1 ∈ mm_ws := mm_in (List.mem_append_left _ (List.mem_of_getElem? (i := 27) rfl)) rfl
theorem im_As_arrive : Cond.instanceMethod k_As_arrive.1 ∈ mm_ws := mm_in (mm_m4 (List.mem_of_getElem? (i := 51) rfl)) rfl
theorem se_As_arrive : Cond.selects (mm_R 0) k_As_arrive.1 k_As_arrive.1 ∈ mm_ws := mm_in (List.mem_append_left _ (List.mem_of_getElem? (i := 28) rfl)) rfl
theorem im_As_setsOfOneDay : Cond.instanceMethod k_As_setsOfOneDay.1 ∈ mm_ws := mm_in (mm_m5 (List.mem_of_getElem? (i := 72) rfl)) rfl
theorem se_As_setsOfOneDay : Cond.selects (mm_R 0) k_As_setsOfOneDay.1 k_As_setsOfOneDay.1 ∈ mm_ws := mm_in (mm_m5 (List.mem_of_getElem? (i := 73) rfl)) rfl
theorem sm_As_luckyRows : Cond.static k_As_luckyRows.1 ∈ mm_ws := mm_in (mm_m5 (List.mem_of_getElem? (i := 58) rfl)) rfl
theorem sm_As_luckyRowsFrom : Cond.static k_As_luckyRowsFrom.1 ∈ mm_ws := mm_in (mm_m5 (List.mem_of_getElem? (i := 61) rfl)) rfl
theorem im_As_assign : Cond.instanceMethod k_As_assign.1 ∈ mm_ws := mm_in (mm_m4 (List.mem_of_getElem? (i := 5) rfl)) rfl
theorem se_As_assign : Cond.selects (mm_R 0) k_As_assign.1 k_As_assign.1 ∈ mm_ws := mm_in (mm_m4 (List.mem_of_getElem? (i := 6) rfl)) rfl
theorem im_As_assignFrom : Cond.instanceMethod k_As_assignFrom.1 ∈ mm_ws := mm_in (mm_m4 (List.mem_of_getElem? (i := 10) rfl)) rfl
theorem se_As_assignFrom : Cond.selects (mm_R 0) k_As_assignFrom.1 k_As_assignFrom.1 ∈ mm_ws := mm_in (List.mem_append_left _ (List.mem_of_getElem? (i := 25) rfl)) rfl
theorem im_As_outcome : Cond.instanceMethod k_As_outcome.1 ∈ mm_ws := mm_in (mm_m4 (List.mem_of_getElem? (i := 111) rfl)) rfl
theorem se_As_outcome : Cond.selects (mm_R 0) k_As_outcome.1 k_As_outcome.1 ∈ mm_ws := mm_in (mm_m4 (List.mem_of_getElem? (i := 112) rfl)) rfl
theorem im_As_opening : Cond.instanceMethod k_As_opening.1 ∈ mm_ws := mm_in (mm_m4 (List.mem_of_getElem? (i := 107) rfl)) rfl
theorem se_As_opening : Cond.selects (mm_R 0) k_As_opening.1 k_As_opening.1 ∈ mm_ws := mm_in (mm_m4 (List.mem_of_getElem? (i := 108) rfl)) rfl
theorem im_As_playOn : Cond.instanceMethod k_As_playOn.1 ∈ mm_ws := mm_in (mm_m4 (List.mem_of_getElem? (i := 117) rfl)) rfl
theorem se_As_playOn : Cond.selects (mm_R 0) k_As_playOn.1 k_As_playOn.1 ∈ mm_ws := mm_in (List.mem_append_left _ (List.mem_of_getElem? (i := 30) rfl)) rfl
theorem im_Bo_init : Cond.instanceMethod k_Bo_init.1 ∈ mm_ws := mm_in (mm_m2 (List.mem_of_getElem? (i := 84) rfl)) rfl
theorem im_Bo_fewest : Cond.instanceMethod k_Bo_fewest.1 ∈ mm_ws := mm_in (mm_m4 (List.mem_of_getElem? (i := 93) rfl)) rfl
theorem se_Bo_fewest : Cond.selects (mm_R 1) k_Bo_fewest.1 k_Bo_fewest.1 ∈ mm_ws := mm_in (mm_m4 (List.mem_of_getElem? (i := 94) rfl)) rfl
theorem im_Bo_board : Cond.instanceMethod k_Bo_board.1 ∈ mm_ws := mm_in (mm_m4 (List.mem_of_getElem? (i := 99) rfl)) rfl
theorem se_Bo_board : Cond.selects (mm_R 1) k_Bo_board.1 k_Bo_board.1 ∈ mm_ws := mm_in (List.mem_append_left _ (List.mem_of_getElem? (i := 29) rfl)) rfl
theorem im_Co_init : Cond.instanceMethod k_Co_init.1 ∈ mm_ws := mm_in (mm_m1 (List.mem_of_getElem? (i := 39) rfl)) rfl
theorem im_Co_clear : Cond.instanceMethod k_Co_clear.1 ∈ mm_ws := mm_in (mm_m2 (List.mem_of_getElem? (i := 184) rfl)) rfl
theorem se_Co_clear : Cond.selects (mm_R 2) k_Co_clear.1 k_Co_clear.1 ∈ mm_ws := mm_in (mm_m2 (List.mem_of_getElem? (i := 185) rfl)) rfl
theorem im_Co_copyFrom : Cond.instanceMethod k_Co_copyFrom.1 ∈ mm_ws := mm_in (mm_m3 (List.mem_of_getElem? (i := 100) rfl)) rfl
theorem se_Co_copyFrom : Cond.selects (mm_R 2) k_Co_copyFrom.1 k_Co_copyFrom.1 ∈ mm_ws := mm_in (mm_m3 (List.mem_of_getElem? (i := 101) rfl)) rfl
theorem im_Co_look : Cond.instanceMethod k_Co_look.1 ∈ mm_ws := mm_in (mm_m3 (List.mem_of_getElem? (i := 132) rfl)) rfl
theorem se_Co_look : Cond.selects (mm_R 2) k_Co_look.1 k_Co_look.1 ∈ mm_ws := mm_in (mm_m3 (List.mem_of_getElem? (i := 133) rfl)) rfl
theorem im_Co_hasChild : Cond.instanceMethod k_Co_hasChild.1 ∈ mm_ws := mm_in (mm_m3 (List.mem_of_getElem? (i := 139) rfl)) rfl
theorem se_Co_hasChild : Cond.selects (mm_R 2) k_Co_hasChild.1 k_Co_hasChild.1 ∈ mm_ws := mm_in (mm_m3 (List.mem_of_getElem? (i := 140) rfl)) rfl
theorem im_Co_hasWork : Cond.instanceMethod k_Co_hasWork.1 ∈ mm_ws := mm_in (mm_m3 (List.mem_of_getElem? (i := 143) rfl)) rfl
theorem se_Co_hasWork : Cond.selects (mm_R 2) k_Co_hasWork.1 k_Co_hasWork.1 ∈ mm_ws := mm_in (mm_m3 (List.mem_of_getElem? (i := 144) rfl)) rfl
theorem im_Co_allChildren : Cond.instanceMethod k_Co_allChildren.1 ∈ mm_ws := mm_in (mm_m4 (List.mem_of_getElem? (i := 38) rfl)) rfl
theorem se_Co_allChildren : Cond.selects (mm_R 2) k_Co_allChildren.1 k_Co_allChildren.1 ∈ mm_ws := mm_in (mm_m4 (List.mem_of_getElem? (i := 39) rfl)) rfl
theorem im_Co_allWorks : Cond.instanceMethod k_Co_allWorks.1 ∈ mm_ws := mm_in (mm_m3 (List.mem_of_getElem? (i := 92) rfl)) rfl
theorem se_Co_allWorks : Cond.selects (mm_R 2) k_Co_allWorks.1 k_Co_allWorks.1 ∈ mm_ws := mm_in (mm_m3 (List.mem_of_getElem? (i := 93) rfl)) rfl
theorem im_Co_isGodparent : Cond.instanceMethod k_Co_isGodparent.1 ∈ mm_ws := mm_in (mm_m3 (List.mem_of_getElem? (i := 181) rfl)) rfl
theorem se_Co_isGodparent : Cond.selects (mm_R 2) k_Co_isGodparent.1 k_Co_isGodparent.1 ∈ mm_ws := mm_in (mm_m3 (List.mem_of_getElem? (i := 182) rfl)) rfl
theorem im_Co_hereOnceComes : Cond.instanceMethod k_Co_hereOnceComes.1 ∈ mm_ws := mm_in (mm_m3 (List.mem_of_getElem? (i := 189) rfl)) rfl
theorem se_Co_hereOnceComes : Cond.selects (mm_R 2) k_Co_hereOnceComes.1 k_Co_hereOnceComes.1 ∈ mm_ws := mm_in (mm_m3 (List.mem_of_getElem? (i := 190) rfl)) rfl
theorem im_Co_worksWith : Cond.instanceMethod k_Co_worksWith.1 ∈ mm_ws := mm_in (mm_m4 (List.mem_of_getElem? (i := 32) rfl)) rfl
theorem se_Co_worksWith : Cond.selects (mm_R 2) k_Co_worksWith.1 k_Co_worksWith.1 ∈ mm_ws := mm_in (mm_m4 (List.mem_of_getElem? (i := 33) rfl)) rfl
theorem im_Co_worthOf : Cond.instanceMethod k_Co_worthOf.1 ∈ mm_ws := mm_in (mm_m3 (List.mem_of_getElem? (i := 225) rfl)) rfl
theorem se_Co_worthOf : Cond.selects (mm_R 2) k_Co_worthOf.1 k_Co_worthOf.1 ∈ mm_ws := mm_in (mm_m3 (List.mem_of_getElem? (i := 226) rfl)) rfl
theorem im_Co_chances : Cond.instanceMethod k_Co_chances.1 ∈ mm_ws := mm_in (mm_m4 (List.mem_of_getElem? (i := 64) rfl)) rfl
theorem se_Co_chances : Cond.selects (mm_R 2) k_Co_chances.1 k_Co_chances.1 ∈ mm_ws := mm_in (mm_m4 (List.mem_of_getElem? (i := 65) rfl)) rfl
theorem im_Co_chancesUnder : Cond.instanceMethod k_Co_chancesUnder.1 ∈ mm_ws := mm_in (mm_m4 (List.mem_of_getElem? (i := 68) rfl)) rfl
theorem se_Co_chancesUnder : Cond.selects (mm_R 2) k_Co_chancesUnder.1 k_Co_chancesUnder.1 ∈ mm_ws := mm_in (mm_m4 (List.mem_of_getElem? (i := 69) rfl)) rfl
theorem im_Co_dearest : Cond.instanceMethod k_Co_dearest.1 ∈ mm_ws := mm_in (mm_m5 (List.mem_of_getElem? (i := 7) rfl)) rfl
theorem se_Co_dearest : Cond.selects (mm_R 2) k_Co_dearest.1 k_Co_dearest.1 ∈ mm_ws := mm_in (mm_m5 (List.mem_of_getElem? (i := 8) rfl)) rfl
theorem im_Co_dearestApart : Cond.instanceMethod k_Co_dearestApart.1 ∈ mm_ws := mm_in (mm_m5 (List.mem_of_getElem? (i := 92) rfl)) rfl
theorem se_Co_dearestApart : Cond.selects (mm_R 2) k_Co_dearestApart.1 k_Co_dearestApart.1 ∈ mm_ws := mm_in (mm_m5 (List.mem_of_getElem? (i := 93) rfl)) rfl
theorem im_Co_needApart : Cond.instanceMethod k_Co_needApart.1 ∈ mm_ws := mm_in (mm_m5 (List.mem_of_getElem? (i := 99) rfl)) rfl
theorem se_Co_needApart : Cond.selects (mm_R 2) k_Co_needApart.1 k_Co_needApart.1 ∈ mm_ws := mm_in (List.mem_append_left _ (List.mem_of_getElem? (i := 35) rfl)) rfl
theorem sm_Cr_shared : Cond.static k_Cr_shared.1 ∈ mm_ws := mm_in (mm_m4 (List.mem_of_getElem? (i := 203) rfl)) rfl
theorem sm_Cr_weathersOf : Cond.static k_Cr_weathersOf.1 ∈ mm_ws := mm_in (mm_m4 (List.mem_of_getElem? (i := 84) rfl)) rfl
theorem sm_Cr_smallestVillage : Cond.static k_Cr_smallestVillage.1 ∈ mm_ws := mm_in (mm_m4 (List.mem_of_getElem? (i := 80) rfl)) rfl
theorem sm_Cr_largestRaft : Cond.static k_Cr_largestRaft.1 ∈ mm_ws := mm_in (mm_m4 (List.mem_of_getElem? (i := 221) rfl)) rfl
theorem sm_Cr_clanOf : Cond.static k_Cr_clanOf.1 ∈ mm_ws := mm_in (mm_m4 (List.mem_of_getElem? (i := 213) rfl)) rfl
theorem sm_Cr_howManyClans : Cond.static k_Cr_howManyClans.1 ∈ mm_ws := mm_in (mm_m4 (List.mem_of_getElem? (i := 210) rfl)) rfl
theorem sm_Cr_twins : Cond.static k_Cr_twins.1 ∈ mm_ws := mm_in (mm_m4 (List.mem_of_getElem? (i := 217) rfl)) rfl
theorem sm_Cr_loners : Cond.static k_Cr_loners.1 ∈ mm_ws := mm_in (mm_m5 (List.mem_of_getElem? (i := 11) rfl)) rfl
theorem sm_Cr_mostCouples : Cond.static k_Cr_mostCouples.1 ∈ mm_ws := mm_in (mm_m4 (List.mem_of_getElem? (i := 224) rfl)) rfl
theorem sm_Cr_mostCouplesFrom : Cond.static k_Cr_mostCouplesFrom.1 ∈ mm_ws := mm_in (mm_m4 (List.mem_of_getElem? (i := 227) rfl)) rfl
theorem im_Da_init : Cond.instanceMethod k_Da_init.1 ∈ mm_ws := mm_in (mm_m1 (List.mem_of_getElem? (i := 234) rfl)) rfl
theorem im_Da_begin : Cond.instanceMethod k_Da_begin.1 ∈ mm_ws := mm_in (mm_m3 (List.mem_of_getElem? (i := 168) rfl)) rfl
theorem se_Da_begin : Cond.selects (mm_R 3) k_Da_begin.1 k_Da_begin.1 ∈ mm_ws := mm_in (List.mem_append_left _ (List.mem_of_getElem? (i := 17) rfl)) rfl
theorem im_Da_live : Cond.instanceMethod k_Da_live.1 ∈ mm_ws := mm_in (mm_m3 (List.mem_of_getElem? (i := 163) rfl)) rfl
theorem se_Da_live : Cond.selects (mm_R 3) k_Da_live.1 k_Da_live.1 ∈ mm_ws := mm_in (mm_m3 (List.mem_of_getElem? (i := 164) rfl)) rfl
theorem im_Da_draw : Cond.instanceMethod k_Da_draw.1 ∈ mm_ws := mm_in (mm_m4 (List.mem_of_getElem? (i := 177) rfl)) rfl
theorem se_Da_draw : Cond.selects (mm_R 3) k_Da_draw.1 k_Da_draw.1 ∈ mm_ws := mm_in (mm_m4 (List.mem_of_getElem? (i := 178) rfl)) rfl
theorem im_Da_drawDeed : Cond.instanceMethod k_Da_drawDeed.1 ∈ mm_ws := mm_in (mm_m4 (List.mem_of_getElem? (i := 182) rfl)) rfl
theorem se_Da_drawDeed : Cond.selects (mm_R 3) k_Da_drawDeed.1 k_Da_drawDeed.1 ∈ mm_ws := mm_in (List.mem_append_left _ (List.mem_of_getElem? (i := 31) rfl)) rfl
theorem im_Da_drawBelow : Cond.instanceMethod k_Da_drawBelow.1 ∈ mm_ws := mm_in (mm_m4 (List.mem_of_getElem? (i := 186) rfl)) rfl
theorem se_Da_drawBelow : Cond.selects (mm_R 3) k_Da_drawBelow.1 k_Da_drawBelow.1 ∈ mm_ws := mm_in (List.mem_append_left _ (List.mem_of_getElem? (i := 32) rfl)) rfl
theorem im_Da_godparentAt : Cond.instanceMethod k_Da_godparentAt.1 ∈ mm_ws := mm_in (mm_m4 (List.mem_of_getElem? (i := 191) rfl)) rfl
theorem se_Da_godparentAt : Cond.selects (mm_R 3) k_Da_godparentAt.1 k_Da_godparentAt.1 ∈ mm_ws := mm_in (List.mem_append_left _ (List.mem_of_getElem? (i := 33) rfl)) rfl
theorem im_Da_deal : Cond.instanceMethod k_Da_deal.1 ∈ mm_ws := mm_in (mm_m3 (List.mem_of_getElem? (i := 174) rfl)) rfl
theorem se_Da_deal : Cond.selects (mm_R 3) k_Da_deal.1 k_Da_deal.1 ∈ mm_ws := mm_in (List.mem_append_left _ (List.mem_of_getElem? (i := 18) rfl)) rfl
theorem im_Da_ask : Cond.instanceMethod k_Da_ask.1 ∈ mm_ws := mm_in (mm_m3 (List.mem_of_getElem? (i := 178) rfl)) rfl
theorem se_Da_ask : Cond.selects (mm_R 3) k_Da_ask.1 k_Da_ask.1 ∈ mm_ws := mm_in (List.mem_append_left _ (List.mem_of_getElem? (i := 19) rfl)) rfl
theorem im_Da_thank : Cond.instanceMethod k_Da_thank.1 ∈ mm_ws := mm_in (mm_m3 (List.mem_of_getElem? (i := 194) rfl)) rfl
theorem se_Da_thank : Cond.selects (mm_R 3) k_Da_thank.1 k_Da_thank.1 ∈ mm_ws := mm_in (List.mem_append_left _ (List.mem_of_getElem? (i := 20) rfl)) rfl
theorem im_Da_work : Cond.instanceMethod k_Da_work.1 ∈ mm_ws := mm_in (mm_m3 (List.mem_of_getElem? (i := 198) rfl)) rfl
theorem se_Da_work : Cond.selects (mm_R 3) k_Da_work.1 k_Da_work.1 ∈ mm_ws := mm_in (List.mem_append_left _ (List.mem_of_getElem? (i := 21) rfl)) rfl
theorem im_Da_passDay : Cond.instanceMethod k_Da_passDay.1 ∈ mm_ws := mm_in (mm_m3 (List.mem_of_getElem? (i := 203) rfl)) rfl
theorem se_Da_passDay : Cond.selects (mm_R 3) k_Da_passDay.1 k_Da_passDay.1 ∈ mm_ws := mm_in (List.mem_append_left _ (List.mem_of_getElem? (i := 22) rfl)) rfl
theorem im_Da_forget : Cond.instanceMethod k_Da_forget.1 ∈ mm_ws := mm_in (mm_m3 (List.mem_of_getElem? (i := 207) rfl)) rfl
theorem se_Da_forget : Cond.selects (mm_R 3) k_Da_forget.1 k_Da_forget.1 ∈ mm_ws := mm_in (List.mem_append_left _ (List.mem_of_getElem? (i := 23) rfl)) rfl
theorem im_Da_eager : Cond.instanceMethod k_Da_eager.1 ∈ mm_ws := mm_in (mm_m5 (List.mem_of_getElem? (i := 139) rfl)) rfl
theorem se_Da_eager : Cond.selects (mm_R 3) k_Da_eager.1 k_Da_eager.1 ∈ mm_ws := mm_in (mm_m5 (List.mem_of_getElem? (i := 140) rfl)) rfl
theorem im_Da_look : Cond.instanceMethod k_Da_look.1 ∈ mm_ws := mm_in (mm_m3 (List.mem_of_getElem? (i := 221) rfl)) rfl
theorem se_Da_look : Cond.selects (mm_R 3) k_Da_look.1 k_Da_look.1 ∈ mm_ws := mm_in (mm_m3 (List.mem_of_getElem? (i := 222) rfl)) rfl
theorem im_Da_lookAtChild : Cond.instanceMethod k_Da_lookAtChild.1 ∈ mm_ws := mm_in (mm_m3 (List.mem_of_getElem? (i := 230) rfl)) rfl
theorem se_Da_lookAtChild : Cond.selects (mm_R 3) k_Da_lookAtChild.1 k_Da_lookAtChild.1 ∈ mm_ws := mm_in (List.mem_append_left _ (List.mem_of_getElem? (i := 24) rfl)) rfl
theorem im_Lo_init : Cond.instanceMethod k_Lo_init.1 ∈ mm_ws := mm_in (mm_m1 (List.mem_of_getElem? (i := 122) rfl)) rfl
theorem im_Lo_copyFrom : Cond.instanceMethod k_Lo_copyFrom.1 ∈ mm_ws := mm_in (mm_m3 (List.mem_of_getElem? (i := 112) rfl)) rfl
theorem se_Lo_copyFrom : Cond.selects (mm_R 4) k_Lo_copyFrom.1 k_Lo_copyFrom.1 ∈ mm_ws := mm_in (mm_m3 (List.mem_of_getElem? (i := 113) rfl)) rfl
theorem im_Lo_add : Cond.instanceMethod k_Lo_add.1 ∈ mm_ws := mm_in (mm_m3 (List.mem_of_getElem? (i := 88) rfl)) rfl
theorem se_Lo_add : Cond.selects (mm_R 4) k_Lo_add.1 k_Lo_add.1 ∈ mm_ws := mm_in (mm_m3 (List.mem_of_getElem? (i := 89) rfl)) rfl
theorem im_Lo_look : Cond.instanceMethod k_Lo_look.1 ∈ mm_ws := mm_in (mm_m4 (List.mem_of_getElem? (i := 136) rfl)) rfl
theorem se_Lo_look : Cond.selects (mm_R 4) k_Lo_look.1 k_Lo_look.1 ∈ mm_ws := mm_in (mm_m4 (List.mem_of_getElem? (i := 137) rfl)) rfl
theorem im_Lo_allows : Cond.instanceMethod k_Lo_allows.1 ∈ mm_ws := mm_in (mm_m4 (List.mem_of_getElem? (i := 148) rfl)) rfl
theorem se_Lo_allows : Cond.selects (mm_R 4) k_Lo_allows.1 k_Lo_allows.1 ∈ mm_ws := mm_in (mm_m4 (List.mem_of_getElem? (i := 149) rfl)) rfl
theorem im_Lo_howManyHave : Cond.instanceMethod k_Lo_howManyHave.1 ∈ mm_ws := mm_in (mm_m4 (List.mem_of_getElem? (i := 144) rfl)) rfl
theorem se_Lo_howManyHave : Cond.selects (mm_R 4) k_Lo_howManyHave.1 k_Lo_howManyHave.1 ∈ mm_ws := mm_in (mm_m4 (List.mem_of_getElem? (i := 145) rfl)) rfl
theorem im_Lo_inAll : Cond.instanceMethod k_Lo_inAll.1 ∈ mm_ws := mm_in (mm_m4 (List.mem_of_getElem? (i := 154) rfl)) rfl
theorem se_Lo_inAll : Cond.selects (mm_R 4) k_Lo_inAll.1 k_Lo_inAll.1 ∈ mm_ws := mm_in (mm_m4 (List.mem_of_getElem? (i := 155) rfl)) rfl
theorem im_Lo_bestQuestion : Cond.instanceMethod k_Lo_bestQuestion.1 ∈ mm_ws := mm_in (mm_m4 (List.mem_of_getElem? (i := 158) rfl)) rfl
theorem se_Lo_bestQuestion : Cond.selects (mm_R 4) k_Lo_bestQuestion.1 k_Lo_bestQuestion.1 ∈ mm_ws := mm_in (mm_m4 (List.mem_of_getElem? (i := 159) rfl)) rfl
theorem im_Lo_fitting : Cond.instanceMethod k_Lo_fitting.1 ∈ mm_ws := mm_in (mm_m4 (List.mem_of_getElem? (i := 164) rfl)) rfl
theorem se_Lo_fitting : Cond.selects (mm_R 4) k_Lo_fitting.1 k_Lo_fitting.1 ∈ mm_ws := mm_in (mm_m4 (List.mem_of_getElem? (i := 165) rfl)) rfl
theorem im_Re_init : Cond.instanceMethod k_Re_init.1 ∈ mm_ws := mm_in (mm_m1 (List.mem_of_getElem? (i := 171) rfl)) rfl
theorem im_Re_read : Cond.instanceMethod k_Re_read.1 ∈ mm_ws := mm_in (mm_m2 (List.mem_of_getElem? (i := 177) rfl)) rfl
theorem se_Re_read : Cond.selects (mm_R 5) k_Re_read.1 k_Re_read.1 ∈ mm_ws := mm_in (mm_m2 (List.mem_of_getElem? (i := 178) rfl)) rfl
theorem im_Re_readLine : Cond.instanceMethod k_Re_readLine.1 ∈ mm_ws := mm_in (mm_m2 (List.mem_of_getElem? (i := 212) rfl)) rfl
theorem se_Re_readLine : Cond.selects (mm_R 5) k_Re_readLine.1 k_Re_readLine.1 ∈ mm_ws := mm_in (List.mem_append_left _ (List.mem_of_getElem? (i := 5) rfl)) rfl
theorem im_Re_getStuck : Cond.instanceMethod k_Re_getStuck.1 ∈ mm_ws := mm_in (mm_m3 (List.mem_of_getElem? (i := 57) rfl)) rfl
theorem se_Re_getStuck : Cond.selects (mm_R 5) k_Re_getStuck.1 k_Re_getStuck.1 ∈ mm_ws := mm_in (List.mem_append_left _ (List.mem_of_getElem? (i := 11) rfl)) rfl
theorem im_Re_note : Cond.instanceMethod k_Re_note.1 ∈ mm_ws := mm_in (mm_m3 (List.mem_of_getElem? (i := 71) rfl)) rfl
theorem se_Re_note : Cond.selects (mm_R 5) k_Re_note.1 k_Re_note.1 ∈ mm_ws := mm_in (List.mem_append_left _ (List.mem_of_getElem? (i := 14) rfl)) rfl
theorem im_Re_judge : Cond.instanceMethod k_Re_judge.1 ∈ mm_ws := mm_in (mm_m3 (List.mem_of_getElem? (i := 63) rfl)) rfl
theorem se_Re_judge : Cond.selects (mm_R 5) k_Re_judge.1 k_Re_judge.1 ∈ mm_ws := mm_in (List.mem_append_left _ (List.mem_of_getElem? (i := 12) rfl)) rfl
theorem im_Re_isFull : Cond.instanceMethod k_Re_isFull.1 ∈ mm_ws := mm_in (mm_m3 (List.mem_of_getElem? (i := 67) rfl)) rfl
theorem se_Re_isFull : Cond.selects (mm_R 5) k_Re_isFull.1 k_Re_isFull.1 ∈ mm_ws := mm_in (List.mem_append_left _ (List.mem_of_getElem? (i := 13) rfl)) rfl
theorem im_Re_canBe : Cond.instanceMethod k_Re_canBe.1 ∈ mm_ws := mm_in (mm_m3 (List.mem_of_getElem? (i := 75) rfl)) rfl
theorem se_Re_canBe : Cond.selects (mm_R 5) k_Re_canBe.1 k_Re_canBe.1 ∈ mm_ws := mm_in (List.mem_append_left _ (List.mem_of_getElem? (i := 15) rfl)) rfl
theorem im_Re_tellOfCoast : Cond.instanceMethod k_Re_tellOfCoast.1 ∈ mm_ws := mm_in (mm_m3 (List.mem_of_getElem? (i := 81) rfl)) rfl
theorem se_Re_tellOfCoast : Cond.selects (mm_R 5) k_Re_tellOfCoast.1 k_Re_tellOfCoast.1 ∈ mm_ws := mm_in (List.mem_append_left _ (List.mem_of_getElem? (i := 16) rfl)) rfl
theorem im_Re_lineOfWord : Cond.instanceMethod k_Re_lineOfWord.1 ∈ mm_ws := mm_in (mm_m2 (List.mem_of_getElem? (i := 216) rfl)) rfl
theorem se_Re_lineOfWord : Cond.selects (mm_R 5) k_Re_lineOfWord.1 k_Re_lineOfWord.1 ∈ mm_ws := mm_in (List.mem_append_left _ (List.mem_of_getElem? (i := 6) rfl)) rfl
theorem im_Re_coastLine : Cond.instanceMethod k_Re_coastLine.1 ∈ mm_ws := mm_in (mm_m2 (List.mem_of_getElem? (i := 220) rfl)) rfl
theorem se_Re_coastLine : Cond.selects (mm_R 5) k_Re_coastLine.1 k_Re_coastLine.1 ∈ mm_ws := mm_in (List.mem_append_left _ (List.mem_of_getElem? (i := 7) rfl)) rfl
theorem im_Re_deedLine : Cond.instanceMethod k_Re_deedLine.1 ∈ mm_ws := mm_in (mm_m3 (List.mem_of_getElem? (i := 42) rfl)) rfl
theorem se_Re_deedLine : Cond.selects (mm_R 5) k_Re_deedLine.1 k_Re_deedLine.1 ∈ mm_ws := mm_in (List.mem_append_left _ (List.mem_of_getElem? (i := 9) rfl)) rfl
theorem im_Re_factLine : Cond.instanceMethod k_Re_factLine.1 ∈ mm_ws := mm_in (mm_m3 (List.mem_of_getElem? (i := 51) rfl)) rfl
theorem se_Re_factLine : Cond.selects (mm_R 5) k_Re_factLine.1 k_Re_factLine.1 ∈ mm_ws := mm_in (List.mem_append_left _ (List.mem_of_getElem? (i := 10) rfl)) rfl
theorem im_Re_isWord : Cond.instanceMethod k_Re_isWord.1 ∈ mm_ws := mm_in (mm_m2 (List.mem_of_getElem? (i := 225) rfl)) rfl
theorem se_Re_isWord : Cond.selects (mm_R 5) k_Re_isWord.1 k_Re_isWord.1 ∈ mm_ws := mm_in (List.mem_append_left _ (List.mem_of_getElem? (i := 8) rfl)) rfl
theorem im_Re_takeToken : Cond.instanceMethod k_Re_takeToken.1 ∈ mm_ws := mm_in (mm_m2 (List.mem_of_getElem? (i := 192) rfl)) rfl
theorem se_Re_takeToken : Cond.selects (mm_R 5) k_Re_takeToken.1 k_Re_takeToken.1 ∈ mm_ws := mm_in (List.mem_append_left _ (List.mem_of_getElem? (i := 0) rfl)) rfl
theorem im_Re_takeWord : Cond.instanceMethod k_Re_takeWord.1 ∈ mm_ws := mm_in (mm_m2 (List.mem_of_getElem? (i := 200) rfl)) rfl
theorem se_Re_takeWord : Cond.selects (mm_R 5) k_Re_takeWord.1 k_Re_takeWord.1 ∈ mm_ws := mm_in (List.mem_append_left _ (List.mem_of_getElem? (i := 2) rfl)) rfl
theorem im_Re_takeNumber : Cond.instanceMethod k_Re_takeNumber.1 ∈ mm_ws := mm_in (mm_m2 (List.mem_of_getElem? (i := 208) rfl)) rfl
theorem se_Re_takeNumber : Cond.selects (mm_R 5) k_Re_takeNumber.1 k_Re_takeNumber.1 ∈ mm_ws := mm_in (List.mem_append_left _ (List.mem_of_getElem? (i := 4) rfl)) rfl
theorem im_Re_isLetter : Cond.instanceMethod k_Re_isLetter.1 ∈ mm_ws := mm_in (mm_m2 (List.mem_of_getElem? (i := 196) rfl)) rfl
theorem se_Re_isLetter : Cond.selects (mm_R 5) k_Re_isLetter.1 k_Re_isLetter.1 ∈ mm_ws := mm_in (List.mem_append_left _ (List.mem_of_getElem? (i := 1) rfl)) rfl
theorem im_Re_isDigit : Cond.instanceMethod k_Re_isDigit.1 ∈ mm_ws := mm_in (mm_m2 (List.mem_of_getElem? (i := 204) rfl)) rfl
theorem se_Re_isDigit : Cond.selects (mm_R 5) k_Re_isDigit.1 k_Re_isDigit.1 ∈ mm_ws := mm_in (List.mem_append_left _ (List.mem_of_getElem? (i := 3) rfl)) rfl
theorem im_Sk_init : Cond.instanceMethod k_Sk_init.1 ∈ mm_ws := mm_in (mm_m2 (List.mem_of_getElem? (i := 107) rfl)) rfl
theorem sm_Sk_rivals : Cond.static k_Sk_rivals.1 ∈ mm_ws := mm_in (mm_m4 (List.mem_of_getElem? (i := 231) rfl)) rfl
theorem sm_Sk_largestCalm : Cond.static k_Sk_largestCalm.1 ∈ mm_ws := mm_in (mm_m4 (List.mem_of_getElem? (i := 235) rfl)) rfl
theorem sm_Sk_isCalm : Cond.static k_Sk_isCalm.1 ∈ mm_ws := mm_in (mm_m4 (List.mem_of_getElem? (i := 238) rfl)) rfl
theorem im_Sk_longestLadder : Cond.instanceMethod k_Sk_longestLadder.1 ∈ mm_ws := mm_in (mm_m5 (List.mem_of_getElem? (i := 22) rfl)) rfl
theorem se_Sk_longestLadder : Cond.selects (mm_R 6) k_Sk_longestLadder.1 k_Sk_longestLadder.1 ∈ mm_ws := mm_in (mm_m5 (List.mem_of_getElem? (i := 23) rfl)) rfl
theorem im_Sk_climb : Cond.instanceMethod k_Sk_climb.1 ∈ mm_ws := mm_in (mm_m5 (List.mem_of_getElem? (i := 27) rfl)) rfl
theorem se_Sk_climb : Cond.selects (mm_R 6) k_Sk_climb.1 k_Sk_climb.1 ∈ mm_ws := mm_in (List.mem_append_left _ (List.mem_of_getElem? (i := 34) rfl)) rfl
theorem im_Sk_waysToCome : Cond.instanceMethod k_Sk_waysToCome.1 ∈ mm_ws := mm_in (mm_m5 (List.mem_of_getElem? (i := 35) rfl)) rfl
theorem se_Sk_waysToCome : Cond.selects (mm_R 6) k_Sk_waysToCome.1 k_Sk_waysToCome.1 ∈ mm_ws := mm_in (mm_m5 (List.mem_of_getElem? (i := 36) rfl)) rfl
theorem im_To_init : Cond.instanceMethod k_To_init.1 ∈ mm_ws := mm_in (mm_m1 (List.mem_of_getElem? (i := 32) rfl)) rfl
theorem im_To_copyFrom : Cond.instanceMethod k_To_copyFrom.1 ∈ mm_ws := mm_in (mm_m5 (List.mem_of_getElem? (i := 157) rfl)) rfl
theorem se_To_copyFrom : Cond.selects (mm_R 7) k_To_copyFrom.1 k_To_copyFrom.1 ∈ mm_ws := mm_in (mm_m5 (List.mem_of_getElem? (i := 158) rfl)) rfl
theorem im_To_put : Cond.instanceMethod k_To_put.1 ∈ mm_ws := mm_in (mm_m2 (List.mem_of_getElem? (i := 158) rfl)) rfl
theorem se_To_put : Cond.selects (mm_R 7) k_To_put.1 k_To_put.1 ∈ mm_ws := mm_in (mm_m2 (List.mem_of_getElem? (i := 159) rfl)) rfl
theorem im_To_slotFor : Cond.instanceMethod k_To_slotFor.1 ∈ mm_ws := mm_in (mm_m2 (List.mem_of_getElem? (i := 170) rfl)) rfl
theorem se_To_slotFor : Cond.selects (mm_R 7) k_To_slotFor.1 k_To_slotFor.1 ∈ mm_ws := mm_in (mm_m2 (List.mem_of_getElem? (i := 171) rfl)) rfl
theorem im_To_keep : Cond.instanceMethod k_To_keep.1 ∈ mm_ws := mm_in (mm_m3 (List.mem_of_getElem? (i := 96) rfl)) rfl
theorem se_To_keep : Cond.selects (mm_R 7) k_To_keep.1 k_To_keep.1 ∈ mm_ws := mm_in (mm_m3 (List.mem_of_getElem? (i := 97) rfl)) rfl
theorem im_To_coastAt : Cond.instanceMethod k_To_coastAt.1 ∈ mm_ws := mm_in (mm_m3 (List.mem_of_getElem? (i := 128) rfl)) rfl
theorem se_To_coastAt : Cond.selects (mm_R 7) k_To_coastAt.1 k_To_coastAt.1 ∈ mm_ws := mm_in (mm_m3 (List.mem_of_getElem? (i := 129) rfl)) rfl
theorem im_To_coastWithChild : Cond.instanceMethod k_To_coastWithChild.1 ∈ mm_ws := mm_in (mm_m4 (List.mem_of_getElem? (i := 198) rfl)) rfl
theorem se_To_coastWithChild : Cond.selects (mm_R 7) k_To_coastWithChild.1 k_To_coastWithChild.1 ∈ mm_ws := mm_in (mm_m4 (List.mem_of_getElem? (i := 199) rfl)) rfl
theorem im_To_coastWithWork : Cond.instanceMethod k_To_coastWithWork.1 ∈ mm_ws := mm_in (mm_m3 (List.mem_of_getElem? (i := 238) rfl)) rfl
theorem se_To_coastWithWork : Cond.selects (mm_R 7) k_To_coastWithWork.1 k_To_coastWithWork.1 ∈ mm_ws := mm_in (mm_m3 (List.mem_of_getElem? (i := 239) rfl)) rfl
theorem im_To_yearAt : Cond.instanceMethod k_To_yearAt.1 ∈ mm_ws := mm_in (mm_m3 (List.mem_of_getElem? (i := 151) rfl)) rfl
theorem se_To_yearAt : Cond.selects (mm_R 7) k_To_yearAt.1 k_To_yearAt.1 ∈ mm_ws := mm_in (mm_m3 (List.mem_of_getElem? (i := 152) rfl)) rfl
theorem im_To_logAt : Cond.instanceMethod k_To_logAt.1 ∈ mm_ws := mm_in (mm_m4 (List.mem_of_getElem? (i := 132) rfl)) rfl
theorem se_To_logAt : Cond.selects (mm_R 7) k_To_logAt.1 k_To_logAt.1 ∈ mm_ws := mm_in (mm_m4 (List.mem_of_getElem? (i := 133) rfl)) rfl
theorem im_Ye_init : Cond.instanceMethod k_Ye_init.1 ∈ mm_ws := mm_in (mm_m1 (List.mem_of_getElem? (i := 96) rfl)) rfl
theorem im_Ye_copyFrom : Cond.instanceMethod k_Ye_copyFrom.1 ∈ mm_ws := mm_in (mm_m3 (List.mem_of_getElem? (i := 107) rfl)) rfl
theorem se_Ye_copyFrom : Cond.selects (mm_R 8) k_Ye_copyFrom.1 k_Ye_copyFrom.1 ∈ mm_ws := mm_in (mm_m3 (List.mem_of_getElem? (i := 108) rfl)) rfl
theorem im_Ye_add : Cond.instanceMethod k_Ye_add.1 ∈ mm_ws := mm_in (mm_m3 (List.mem_of_getElem? (i := 84) rfl)) rfl
theorem se_Ye_add : Cond.selects (mm_R 8) k_Ye_add.1 k_Ye_add.1 ∈ mm_ws := mm_in (mm_m3 (List.mem_of_getElem? (i := 85) rfl)) rfl
theorem im_Ye_look : Cond.instanceMethod k_Ye_look.1 ∈ mm_ws := mm_in (mm_m3 (List.mem_of_getElem? (i := 155) rfl)) rfl
theorem se_Ye_look : Cond.selects (mm_R 8) k_Ye_look.1 k_Ye_look.1 ∈ mm_ws := mm_in (mm_m3 (List.mem_of_getElem? (i := 156) rfl)) rfl
theorem im_G_init : Cond.instanceMethod k_G_init.1 ∈ mm_ws := mm_in (mm_m1 (List.mem_of_getElem? (i := 24) rfl)) rfl
theorem im_G_feed : Cond.instanceMethod k_G_feed.1 ∈ mm_ws := mm_in (mm_m2 (List.mem_of_getElem? (i := 154) rfl)) rfl
theorem se_G_feed : Cond.selects (mm_R 9) k_G_feed.1 k_G_feed.1 ∈ mm_ws := mm_in (mm_m2 (List.mem_of_getElem? (i := 155) rfl)) rfl
theorem im_G_end : Cond.instanceMethod k_G_end.1 ∈ mm_ws := mm_in (mm_m2 (List.mem_of_getElem? (i := 162) rfl)) rfl
theorem se_G_end : Cond.selects (mm_R 9) k_G_end.1 k_G_end.1 ∈ mm_ws := mm_in (mm_m2 (List.mem_of_getElem? (i := 163) rfl)) rfl
theorem im_G_text : Cond.instanceMethod k_G_text.1 ∈ mm_ws := mm_in (mm_m2 (List.mem_of_getElem? (i := 166) rfl)) rfl
theorem se_G_text : Cond.selects (mm_R 9) k_G_text.1 k_G_text.1 ∈ mm_ws := mm_in (mm_m2 (List.mem_of_getElem? (i := 167) rfl)) rfl
theorem im_G_fault : Cond.instanceMethod k_G_fault.1 ∈ mm_ws := mm_in (mm_m3 (List.mem_of_getElem? (i := 120) rfl)) rfl
theorem se_G_fault : Cond.selects (mm_R 9) k_G_fault.1 k_G_fault.1 ∈ mm_ws := mm_in (mm_m3 (List.mem_of_getElem? (i := 121) rfl)) rfl
theorem im_G_coast : Cond.instanceMethod k_G_coast.1 ∈ mm_ws := mm_in (mm_m3 (List.mem_of_getElem? (i := 124) rfl)) rfl
theorem se_G_coast : Cond.selects (mm_R 9) k_G_coast.1 k_G_coast.1 ∈ mm_ws := mm_in (mm_m3 (List.mem_of_getElem? (i := 125) rfl)) rfl
theorem im_G_deed : Cond.instanceMethod k_G_deed.1 ∈ mm_ws := mm_in (mm_m3 (List.mem_of_getElem? (i := 147) rfl)) rfl
theorem se_G_deed : Cond.selects (mm_R 9) k_G_deed.1 k_G_deed.1 ∈ mm_ws := mm_in (mm_m3 (List.mem_of_getElem? (i := 148) rfl)) rfl
theorem im_G_till : Cond.instanceMethod k_G_till.1 ∈ mm_ws := mm_in (mm_m3 (List.mem_of_getElem? (i := 159) rfl)) rfl
theorem se_G_till : Cond.selects (mm_R 9) k_G_till.1 k_G_till.1 ∈ mm_ws := mm_in (mm_m3 (List.mem_of_getElem? (i := 160) rfl)) rfl
theorem im_G_state : Cond.instanceMethod k_G_state.1 ∈ mm_ws := mm_in (mm_m3 (List.mem_of_getElem? (i := 217) rfl)) rfl
theorem se_G_state : Cond.selects (mm_R 9) k_G_state.1 k_G_state.1 ∈ mm_ws := mm_in (mm_m3 (List.mem_of_getElem? (i := 218) rfl)) rfl
theorem im_G_call : Cond.instanceMethod k_G_call.1 ∈ mm_ws := mm_in (mm_m3 (List.mem_of_getElem? (i := 234) rfl)) rfl
theorem se_G_call : Cond.selects (mm_R 9) k_G_call.1 k_G_call.1 ∈ mm_ws := mm_in (mm_m3 (List.mem_of_getElem? (i := 235) rfl)) rfl
theorem im_G_feast : Cond.instanceMethod k_G_feast.1 ∈ mm_ws := mm_in (mm_m4 (List.mem_of_getElem? (i := 19) rfl)) rfl
theorem se_G_feast : Cond.selects (mm_R 9) k_G_feast.1 k_G_feast.1 ∈ mm_ws := mm_in (mm_m4 (List.mem_of_getElem? (i := 20) rfl)) rfl
theorem im_G_odds : Cond.instanceMethod k_G_odds.1 ∈ mm_ws := mm_in (mm_m4 (List.mem_of_getElem? (i := 56) rfl)) rfl
theorem se_G_odds : Cond.selects (mm_R 9) k_G_odds.1 k_G_odds.1 ∈ mm_ws := mm_in (mm_m4 (List.mem_of_getElem? (i := 57) rfl)) rfl
theorem im_G_village : Cond.instanceMethod k_G_village.1 ∈ mm_ws := mm_in (mm_m4 (List.mem_of_getElem? (i := 76) rfl)) rfl
theorem se_G_village : Cond.selects (mm_R 9) k_G_village.1 k_G_village.1 ∈ mm_ws := mm_in (mm_m4 (List.mem_of_getElem? (i := 77) rfl)) rfl
theorem im_G_boats : Cond.instanceMethod k_G_boats.1 ∈ mm_ws := mm_in (mm_m4 (List.mem_of_getElem? (i := 89) rfl)) rfl
theorem se_G_boats : Cond.selects (mm_R 9) k_G_boats.1 k_G_boats.1 ∈ mm_ws := mm_in (mm_m4 (List.mem_of_getElem? (i := 90) rfl)) rfl
theorem im_G_headland : Cond.instanceMethod k_G_headland.1 ∈ mm_ws := mm_in (mm_m4 (List.mem_of_getElem? (i := 103) rfl)) rfl
theorem se_G_headland : Cond.selects (mm_R 9) k_G_headland.1 k_G_headland.1 ∈ mm_ws := mm_in (mm_m4 (List.mem_of_getElem? (i := 104) rfl)) rfl
theorem im_G_waits : Cond.instanceMethod k_G_waits.1 ∈ mm_ws := mm_in (mm_m4 (List.mem_of_getElem? (i := 123) rfl)) rfl
theorem se_G_waits : Cond.selects (mm_R 9) k_G_waits.1 k_G_waits.1 ∈ mm_ws := mm_in (mm_m4 (List.mem_of_getElem? (i := 124) rfl)) rfl
theorem im_G_fact : Cond.instanceMethod k_G_fact.1 ∈ mm_ws := mm_in (mm_m4 (List.mem_of_getElem? (i := 128) rfl)) rfl
theorem se_G_fact : Cond.selects (mm_R 9) k_G_fact.1 k_G_fact.1 ∈ mm_ws := mm_in (mm_m4 (List.mem_of_getElem? (i := 129) rfl)) rfl
theorem im_G_fits : Cond.instanceMethod k_G_fits.1 ∈ mm_ws := mm_in (mm_m4 (List.mem_of_getElem? (i := 140) rfl)) rfl
theorem se_G_fits : Cond.selects (mm_R 9) k_G_fits.1 k_G_fits.1 ∈ mm_ws := mm_in (mm_m4 (List.mem_of_getElem? (i := 141) rfl)) rfl
theorem im_G_whose : Cond.instanceMethod k_G_whose.1 ∈ mm_ws := mm_in (mm_m4 (List.mem_of_getElem? (i := 168) rfl)) rfl
theorem se_G_whose : Cond.selects (mm_R 9) k_G_whose.1 k_G_whose.1 ∈ mm_ws := mm_in (mm_m4 (List.mem_of_getElem? (i := 169) rfl)) rfl
theorem im_G_drawn : Cond.instanceMethod k_G_drawn.1 ∈ mm_ws := mm_in (mm_m4 (List.mem_of_getElem? (i := 173) rfl)) rfl
theorem se_G_drawn : Cond.selects (mm_R 9) k_G_drawn.1 k_G_drawn.1 ∈ mm_ws := mm_in (mm_m4 (List.mem_of_getElem? (i := 174) rfl)) rfl
theorem im_G_kin : Cond.instanceMethod k_G_kin.1 ∈ mm_ws := mm_in (mm_m4 (List.mem_of_getElem? (i := 194) rfl)) rfl
theorem se_G_kin : Cond.selects (mm_R 9) k_G_kin.1 k_G_kin.1 ∈ mm_ws := mm_in (mm_m4 (List.mem_of_getElem? (i := 195) rfl)) rfl
theorem im_G_clan : Cond.instanceMethod k_G_clan.1 ∈ mm_ws := mm_in (mm_m4 (List.mem_of_getElem? (i := 206) rfl)) rfl
theorem se_G_clan : Cond.selects (mm_R 9) k_G_clan.1 k_G_clan.1 ∈ mm_ws := mm_in (mm_m4 (List.mem_of_getElem? (i := 207) rfl)) rfl
theorem im_G_lone : Cond.instanceMethod k_G_lone.1 ∈ mm_ws := mm_in (mm_m5 (List.mem_of_getElem? (i := 3) rfl)) rfl
theorem se_G_lone : Cond.selects (mm_R 9) k_G_lone.1 k_G_lone.1 ∈ mm_ws := mm_in (mm_m5 (List.mem_of_getElem? (i := 4) rfl)) rfl
theorem im_G_near : Cond.instanceMethod k_G_near.1 ∈ mm_ws := mm_in (mm_m5 (List.mem_of_getElem? (i := 14) rfl)) rfl
theorem se_G_near : Cond.selects (mm_R 9) k_G_near.1 k_G_near.1 ∈ mm_ws := mm_in (mm_m5 (List.mem_of_getElem? (i := 15) rfl)) rfl
theorem im_G_ladder : Cond.instanceMethod k_G_ladder.1 ∈ mm_ws := mm_in (mm_m5 (List.mem_of_getElem? (i := 18) rfl)) rfl
theorem se_G_ladder : Cond.selects (mm_R 9) k_G_ladder.1 k_G_ladder.1 ∈ mm_ws := mm_in (mm_m5 (List.mem_of_getElem? (i := 19) rfl)) rfl
theorem im_G_storm : Cond.instanceMethod k_G_storm.1 ∈ mm_ws := mm_in (mm_m5 (List.mem_of_getElem? (i := 31) rfl)) rfl
theorem se_G_storm : Cond.selects (mm_R 9) k_G_storm.1 k_G_storm.1 ∈ mm_ws := mm_in (mm_m5 (List.mem_of_getElem? (i := 32) rfl)) rfl
theorem im_G_lack : Cond.instanceMethod k_G_lack.1 ∈ mm_ws := mm_in (mm_m5 (List.mem_of_getElem? (i := 44) rfl)) rfl
theorem se_G_lack : Cond.selects (mm_R 9) k_G_lack.1 k_G_lack.1 ∈ mm_ws := mm_in (mm_m5 (List.mem_of_getElem? (i := 45) rfl)) rfl
theorem im_G_busy : Cond.instanceMethod k_G_busy.1 ∈ mm_ws := mm_in (mm_m5 (List.mem_of_getElem? (i := 49) rfl)) rfl
theorem se_G_busy : Cond.selects (mm_R 9) k_G_busy.1 k_G_busy.1 ∈ mm_ws := mm_in (mm_m5 (List.mem_of_getElem? (i := 50) rfl)) rfl
theorem im_G_lots : Cond.instanceMethod k_G_lots.1 ∈ mm_ws := mm_in (mm_m5 (List.mem_of_getElem? (i := 53) rfl)) rfl
theorem se_G_lots : Cond.selects (mm_R 9) k_G_lots.1 k_G_lots.1 ∈ mm_ws := mm_in (mm_m5 (List.mem_of_getElem? (i := 54) rfl)) rfl
theorem im_G_heir : Cond.instanceMethod k_G_heir.1 ∈ mm_ws := mm_in (mm_m5 (List.mem_of_getElem? (i := 64) rfl)) rfl
theorem se_G_heir : Cond.selects (mm_R 9) k_G_heir.1 k_G_heir.1 ∈ mm_ws := mm_in (mm_m5 (List.mem_of_getElem? (i := 65) rfl)) rfl
theorem im_G_plan : Cond.instanceMethod k_G_plan.1 ∈ mm_ws := mm_in (mm_m5 (List.mem_of_getElem? (i := 68) rfl)) rfl
theorem se_G_plan : Cond.selects (mm_R 9) k_G_plan.1 k_G_plan.1 ∈ mm_ws := mm_in (mm_m5 (List.mem_of_getElem? (i := 69) rfl)) rfl
theorem im_G_levy : Cond.instanceMethod k_G_levy.1 ∈ mm_ws := mm_in (mm_m5 (List.mem_of_getElem? (i := 88) rfl)) rfl
theorem se_G_levy : Cond.selects (mm_R 9) k_G_levy.1 k_G_levy.1 ∈ mm_ws := mm_in (mm_m5 (List.mem_of_getElem? (i := 89) rfl)) rfl
theorem im_G_ready : Cond.instanceMethod k_G_ready.1 ∈ mm_ws := mm_in (mm_m5 (List.mem_of_getElem? (i := 104) rfl)) rfl
theorem se_G_ready : Cond.selects (mm_R 9) k_G_ready.1 k_G_ready.1 ∈ mm_ws := mm_in (mm_m5 (List.mem_of_getElem? (i := 105) rfl)) rfl
theorem im_G_hope : Cond.instanceMethod k_G_hope.1 ∈ mm_ws := mm_in (mm_m5 (List.mem_of_getElem? (i := 109) rfl)) rfl
theorem se_G_hope : Cond.selects (mm_R 9) k_G_hope.1 k_G_hope.1 ∈ mm_ws := mm_in (mm_m5 (List.mem_of_getElem? (i := 110) rfl)) rfl
theorem im_G_pair : Cond.instanceMethod k_G_pair.1 ∈ mm_ws := mm_in (mm_m5 (List.mem_of_getElem? (i := 113) rfl)) rfl
theorem se_G_pair : Cond.selects (mm_R 9) k_G_pair.1 k_G_pair.1 ∈ mm_ws := mm_in (mm_m5 (List.mem_of_getElem? (i := 114) rfl)) rfl
theorem im_G_seat : Cond.instanceMethod k_G_seat.1 ∈ mm_ws := mm_in (mm_m5 (List.mem_of_getElem? (i := 117) rfl)) rfl
theorem se_G_seat : Cond.selects (mm_R 9) k_G_seat.1 k_G_seat.1 ∈ mm_ws := mm_in (mm_m5 (List.mem_of_getElem? (i := 118) rfl)) rfl
theorem im_G_tide : Cond.instanceMethod k_G_tide.1 ∈ mm_ws := mm_in (mm_m5 (List.mem_of_getElem? (i := 121) rfl)) rfl
theorem se_G_tide : Cond.selects (mm_R 9) k_G_tide.1 k_G_tide.1 ∈ mm_ws := mm_in (mm_m5 (List.mem_of_getElem? (i := 122) rfl)) rfl
theorem im_G_first : Cond.instanceMethod k_G_first.1 ∈ mm_ws := mm_in (mm_m5 (List.mem_of_getElem? (i := 126) rfl)) rfl
theorem se_G_first : Cond.selects (mm_R 9) k_G_first.1 k_G_first.1 ∈ mm_ws := mm_in (mm_m5 (List.mem_of_getElem? (i := 127) rfl)) rfl
theorem im_G_kept : Cond.instanceMethod k_G_kept.1 ∈ mm_ws := mm_in (mm_m5 (List.mem_of_getElem? (i := 131) rfl)) rfl
theorem se_G_kept : Cond.selects (mm_R 9) k_G_kept.1 k_G_kept.1 ∈ mm_ws := mm_in (mm_m5 (List.mem_of_getElem? (i := 132) rfl)) rfl
theorem im_G_after : Cond.instanceMethod k_G_after.1 ∈ mm_ws := mm_in (mm_m5 (List.mem_of_getElem? (i := 135) rfl)) rfl
theorem se_G_after : Cond.selects (mm_R 9) k_G_after.1 k_G_after.1 ∈ mm_ws := mm_in (mm_m5 (List.mem_of_getElem? (i := 136) rfl)) rfl
theorem im_G_share : Cond.instanceMethod k_G_share.1 ∈ mm_ws := mm_in (mm_m5 (List.mem_of_getElem? (i := 143) rfl)) rfl
theorem se_G_share : Cond.selects (mm_R 9) k_G_share.1 k_G_share.1 ∈ mm_ws := mm_in (mm_m5 (List.mem_of_getElem? (i := 144) rfl)) rfl
theorem im_G_count : Cond.instanceMethod k_G_count.1 ∈ mm_ws := mm_in (mm_m5 (List.mem_of_getElem? (i := 148) rfl)) rfl
theorem se_G_count : Cond.selects (mm_R 9) k_G_count.1 k_G_count.1 ∈ mm_ws := mm_in (mm_m5 (List.mem_of_getElem? (i := 149) rfl)) rfl
theorem im_G_image : Cond.instanceMethod k_G_image.1 ∈ mm_ws := mm_in (mm_m5 (List.mem_of_getElem? (i := 153) rfl)) rfl
theorem se_G_image : Cond.selects (mm_R 9) k_G_image.1 k_G_image.1 ∈ mm_ws := mm_in (mm_m5 (List.mem_of_getElem? (i := 154) rfl)) rfl
theorem im_G_again : Cond.instanceMethod k_G_again.1 ∈ mm_ws := mm_in (mm_m5 (List.mem_of_getElem? (i := 162) rfl)) rfl
theorem se_G_again : Cond.selects (mm_R 9) k_G_again.1 k_G_again.1 ∈ mm_ws := mm_in (mm_m5 (List.mem_of_getElem? (i := 163) rfl)) rfl
theorem im_G_bestRow : Cond.instanceMethod k_G_bestRow.1 ∈ mm_ws := mm_in (mm_m4 (List.mem_of_getElem? (i := 24) rfl)) rfl
theorem se_G_bestRow : Cond.selects (mm_R 9) k_G_bestRow.1 k_G_bestRow.1 ∈ mm_ws := mm_in (List.mem_append_left _ (List.mem_of_getElem? (i := 26) rfl)) rfl
theorem sm_G_isSort : Cond.static k_G_isSort.1 ∈ mm_ws := mm_in (mm_m2 (List.mem_of_getElem? (i := 174) rfl)) rfl
theorem sm_G_isWeather : Cond.static k_G_isWeather.1 ∈ mm_ws := mm_in (mm_m3 (List.mem_of_getElem? (i := 136) rfl)) rfl
theorem sm_G_isWeatherBits : Cond.static k_G_isWeatherBits.1 ∈ mm_ws := mm_in (mm_m4 (List.mem_of_getElem? (i := 60) rfl)) rfl
theorem sm_G_has : Cond.static k_G_has.1 ∈ mm_ws := mm_in (mm_m3 (List.mem_of_getElem? (i := 185) rfl)) rfl
theorem sm_G_leastTerms : Cond.static k_G_leastTerms.1 ∈ mm_ws := mm_in (mm_m4 (List.mem_of_getElem? (i := 73) rfl)) rfl
theorem sm_G_unionOf : Cond.static k_G_unionOf.1 ∈ mm_ws := mm_in (mm_m5 (List.mem_of_getElem? (i := 78) rfl)) rfl
theorem sm_G_fewestDays : Cond.static k_G_fewestDays.1 ∈ mm_ws := mm_in (mm_m5 (List.mem_of_getElem? (i := 82) rfl)) rfl
theorem sm_G_oneDayMore : Cond.static k_G_oneDayMore.1 ∈ mm_ws := mm_in (mm_m5 (List.mem_of_getElem? (i := 85) rfl)) rfl
theorem im_M_init : Cond.instanceMethod k_M_init.1 ∈ mm_ws := mm_in (mm_m5 (List.mem_of_getElem? (i := 168) rfl)) rfl
theorem sm_M_in : Cond.static k_M_in.1 ∈ mm_ws := mm_in (mm_m6 (List.mem_of_getElem? (i := 99) rfl)) rfl
theorem sm_M_has : Cond.static k_M_has.1 ∈ mm_ws := mm_in (mm_m7 (List.mem_of_getElem? (i := 22) rfl)) rfl
theorem sm_M_greater : Cond.static k_M_greater.1 ∈ mm_ws := mm_in (mm_m6 (List.mem_of_getElem? (i := 172) rfl)) rfl
theorem sm_M_lesser : Cond.static k_M_lesser.1 ∈ mm_ws := mm_in (mm_m7 (List.mem_of_getElem? (i := 199) rfl)) rfl
theorem sm_M_ones : Cond.static k_M_ones.1 ∈ mm_ws := mm_in (mm_m7 (List.mem_of_getElem? (i := 65) rfl)) rfl
theorem sm_M_copyRow : Cond.static k_M_copyRow.1 ∈ mm_ws := mm_in (mm_m8 (List.mem_of_getElem? (i := 135) rfl)) rfl
theorem im_M_copyAll : Cond.instanceMethod k_M_copyAll.1 ∈ mm_ws := mm_in (mm_m8 (List.mem_of_getElem? (i := 132) rfl)) rfl
theorem se_M_copyAll : Cond.selects (mm_R 10) k_M_copyAll.1 k_M_copyAll.1 ∈ mm_ws := mm_in (List.mem_append_left _ (List.mem_of_getElem? (i := 114) rfl)) rfl
theorem im_M_is : Cond.instanceMethod k_M_is.1 ∈ mm_ws := mm_in (mm_m6 (List.mem_of_getElem? (i := 107) rfl)) rfl
theorem se_M_is : Cond.selects (mm_R 10) k_M_is.1 k_M_is.1 ∈ mm_ws := mm_in (List.mem_append_left _ (List.mem_of_getElem? (i := 37) rfl)) rfl
theorem im_M_feed : Cond.instanceMethod k_M_feed.1 ∈ mm_ws := mm_in (mm_m6 (List.mem_of_getElem? (i := 87) rfl)) rfl
theorem se_M_feed : Cond.selects (mm_R 10) k_M_feed.1 k_M_feed.1 ∈ mm_ws := mm_in (mm_m6 (List.mem_of_getElem? (i := 88) rfl)) rfl
theorem im_M_four : Cond.instanceMethod k_M_four.1 ∈ mm_ws := mm_in (mm_m6 (List.mem_of_getElem? (i := 92) rfl)) rfl
theorem se_M_four : Cond.selects (mm_R 10) k_M_four.1 k_M_four.1 ∈ mm_ws := mm_in (List.mem_append_left _ (List.mem_of_getElem? (i := 36) rfl)) rfl
theorem im_M_end : Cond.instanceMethod k_M_end.1 ∈ mm_ws := mm_in (mm_m6 (List.mem_of_getElem? (i := 95) rfl)) rfl
theorem se_M_end : Cond.selects (mm_R 10) k_M_end.1 k_M_end.1 ∈ mm_ws := mm_in (mm_m6 (List.mem_of_getElem? (i := 96) rfl)) rfl
theorem im_M_see : Cond.instanceMethod k_M_see.1 ∈ mm_ws := mm_in (mm_m6 (List.mem_of_getElem? (i := 119) rfl)) rfl
theorem se_M_see : Cond.selects (mm_R 10) k_M_see.1 k_M_see.1 ∈ mm_ws := mm_in (List.mem_append_left _ (List.mem_of_getElem? (i := 40) rfl)) rfl
theorem im_M_token : Cond.instanceMethod k_M_token.1 ∈ mm_ws := mm_in (mm_m6 (List.mem_of_getElem? (i := 115) rfl)) rfl
theorem se_M_token : Cond.selects (mm_R 10) k_M_token.1 k_M_token.1 ∈ mm_ws := mm_in (List.mem_append_left _ (List.mem_of_getElem? (i := 39) rfl)) rfl
theorem im_M_fails : Cond.instanceMethod k_M_fails.1 ∈ mm_ws := mm_in (mm_m6 (List.mem_of_getElem? (i := 149) rfl)) rfl
theorem se_M_fails : Cond.selects (mm_R 10) k_M_fails.1 k_M_fails.1 ∈ mm_ws := mm_in (List.mem_append_left _ (List.mem_of_getElem? (i := 47) rfl)) rfl
theorem im_M_later : Cond.instanceMethod k_M_later.1 ∈ mm_ws := mm_in (mm_m6 (List.mem_of_getElem? (i := 137) rfl)) rfl
theorem se_M_later : Cond.selects (mm_R 10) k_M_later.1 k_M_later.1 ∈ mm_ws := mm_in (List.mem_append_left _ (List.mem_of_getElem? (i := 44) rfl)) rfl
theorem im_M_takeNew : Cond.instanceMethod k_M_takeNew.1 ∈ mm_ws := mm_in (mm_m6 (List.mem_of_getElem? (i := 145) rfl)) rfl
theorem se_M_takeNew : Cond.selects (mm_R 10) k_M_takeNew.1 k_M_takeNew.1 ∈ mm_ws := mm_in (List.mem_append_left _ (List.mem_of_getElem? (i := 46) rfl)) rfl
theorem im_M_take : Cond.instanceMethod k_M_take.1 ∈ mm_ws := mm_in (mm_m6 (List.mem_of_getElem? (i := 157) rfl)) rfl
theorem se_M_take : Cond.selects (mm_R 10) k_M_take.1 k_M_take.1 ∈ mm_ws := mm_in (List.mem_append_left _ (List.mem_of_getElem? (i := 49) rfl)) rfl
theorem im_M_full : Cond.instanceMethod k_M_full.1 ∈ mm_ws := mm_in (mm_m6 (List.mem_of_getElem? (i := 133) rfl)) rfl
theorem se_M_full : Cond.selects (mm_R 10) k_M_full.1 k_M_full.1 ∈ mm_ws := mm_in (List.mem_append_left _ (List.mem_of_getElem? (i := 43) rfl)) rfl
theorem im_M_childLine : Cond.instanceMethod k_M_childLine.1 ∈ mm_ws := mm_in (mm_m6 (List.mem_of_getElem? (i := 141) rfl)) rfl
theorem se_M_childLine : Cond.selects (mm_R 10) k_M_childLine.1 k_M_childLine.1 ∈ mm_ws := mm_in (List.mem_append_left _ (List.mem_of_getElem? (i := 45) rfl)) rfl
theorem im_M_workLine : Cond.instanceMethod k_M_workLine.1 ∈ mm_ws := mm_in (mm_m6 (List.mem_of_getElem? (i := 153) rfl)) rfl
theorem se_M_workLine : Cond.selects (mm_R 10) k_M_workLine.1 k_M_workLine.1 ∈ mm_ws := mm_in (List.mem_append_left _ (List.mem_of_getElem? (i := 48) rfl)) rfl
theorem im_M_opposeLine : Cond.instanceMethod k_M_opposeLine.1 ∈ mm_ws := mm_in (mm_m6 (List.mem_of_getElem? (i := 165) rfl)) rfl
theorem se_M_opposeLine : Cond.selects (mm_R 10) k_M_opposeLine.1 k_M_opposeLine.1 ∈ mm_ws := mm_in (List.mem_append_left _ (List.mem_of_getElem? (i := 50) rfl)) rfl
theorem im_M_needsLine : Cond.instanceMethod k_M_needsLine.1 ∈ mm_ws := mm_in (mm_m6 (List.mem_of_getElem? (i := 169) rfl)) rfl
theorem se_M_needsLine : Cond.selects (mm_R 10) k_M_needsLine.1 k_M_needsLine.1 ∈ mm_ws := mm_in (List.mem_append_left _ (List.mem_of_getElem? (i := 51) rfl)) rfl
theorem im_M_coastLine : Cond.instanceMethod k_M_coastLine.1 ∈ mm_ws := mm_in (mm_m6 (List.mem_of_getElem? (i := 127) rfl)) rfl
theorem se_M_coastLine : Cond.selects (mm_R 10) k_M_coastLine.1 k_M_coastLine.1 ∈ mm_ws := mm_in (List.mem_append_left _ (List.mem_of_getElem? (i := 42) rfl)) rfl
theorem im_M_keepRow : Cond.instanceMethod k_M_keepRow.1 ∈ mm_ws := mm_in (mm_m6 (List.mem_of_getElem? (i := 185) rfl)) rfl
theorem se_M_keepRow : Cond.selects (mm_R 10) k_M_keepRow.1 k_M_keepRow.1 ∈ mm_ws := mm_in (List.mem_append_left _ (List.mem_of_getElem? (i := 53) rfl)) rfl
theorem im_M_yearLine : Cond.instanceMethod k_M_yearLine.1 ∈ mm_ws := mm_in (mm_m6 (List.mem_of_getElem? (i := 176) rfl)) rfl
theorem se_M_yearLine : Cond.selects (mm_R 10) k_M_yearLine.1 k_M_yearLine.1 ∈ mm_ws := mm_in (List.mem_append_left _ (List.mem_of_getElem? (i := 52) rfl)) rfl
theorem im_M_logLine : Cond.instanceMethod k_M_logLine.1 ∈ mm_ws := mm_in (mm_m6 (List.mem_of_getElem? (i := 189) rfl)) rfl
theorem se_M_logLine : Cond.selects (mm_R 10) k_M_logLine.1 k_M_logLine.1 ∈ mm_ws := mm_in (List.mem_append_left _ (List.mem_of_getElem? (i := 54) rfl)) rfl
theorem im_M_lines : Cond.instanceMethod k_M_lines.1 ∈ mm_ws := mm_in (mm_m6 (List.mem_of_getElem? (i := 123) rfl)) rfl
theorem se_M_lines : Cond.selects (mm_R 10) k_M_lines.1 k_M_lines.1 ∈ mm_ws := mm_in (List.mem_append_left _ (List.mem_of_getElem? (i := 41) rfl)) rfl
theorem im_M_readText : Cond.instanceMethod k_M_readText.1 ∈ mm_ws := mm_in (mm_m6 (List.mem_of_getElem? (i := 111) rfl)) rfl
theorem se_M_readText : Cond.selects (mm_R 10) k_M_readText.1 k_M_readText.1 ∈ mm_ws := mm_in (List.mem_append_left _ (List.mem_of_getElem? (i := 38) rfl)) rfl
theorem im_M_store : Cond.instanceMethod k_M_store.1 ∈ mm_ws := mm_in (mm_m6 (List.mem_of_getElem? (i := 195) rfl)) rfl
theorem se_M_store : Cond.selects (mm_R 10) k_M_store.1 k_M_store.1 ∈ mm_ws := mm_in (List.mem_append_left _ (List.mem_of_getElem? (i := 55) rfl)) rfl
theorem im_M_text : Cond.instanceMethod k_M_text.1 ∈ mm_ws := mm_in (mm_m6 (List.mem_of_getElem? (i := 102) rfl)) rfl
theorem se_M_text : Cond.selects (mm_R 10) k_M_text.1 k_M_text.1 ∈ mm_ws := mm_in (mm_m6 (List.mem_of_getElem? (i := 103) rfl)) rfl
theorem im_M_fault : Cond.instanceMethod k_M_fault.1 ∈ mm_ws := mm_in (mm_m6 (List.mem_of_getElem? (i := 198) rfl)) rfl
theorem se_M_fault : Cond.selects (mm_R 10) k_M_fault.1 k_M_fault.1 ∈ mm_ws := mm_in (mm_m6 (List.mem_of_getElem? (i := 199) rfl)) rfl
theorem im_M_of : Cond.instanceMethod k_M_of.1 ∈ mm_ws := mm_in (mm_m6 (List.mem_of_getElem? (i := 211) rfl)) rfl
theorem se_M_of : Cond.selects (mm_R 10) k_M_of.1 k_M_of.1 ∈ mm_ws := mm_in (List.mem_append_left _ (List.mem_of_getElem? (i := 57) rfl)) rfl
theorem im_M_hand : Cond.instanceMethod k_M_hand.1 ∈ mm_ws := mm_in (mm_m6 (List.mem_of_getElem? (i := 207) rfl)) rfl
theorem se_M_hand : Cond.selects (mm_R 10) k_M_hand.1 k_M_hand.1 ∈ mm_ws := mm_in (List.mem_append_left _ (List.mem_of_getElem? (i := 56) rfl)) rfl
theorem im_M_isChild : Cond.instanceMethod k_M_isChild.1 ∈ mm_ws := mm_in (mm_m7 (List.mem_of_getElem? (i := 19) rfl)) rfl
theorem se_M_isChild : Cond.selects (mm_R 10) k_M_isChild.1 k_M_isChild.1 ∈ mm_ws := mm_in (List.mem_append_left _ (List.mem_of_getElem? (i := 67) rfl)) rfl
theorem im_M_isWork : Cond.instanceMethod k_M_isWork.1 ∈ mm_ws := mm_in (mm_m7 (List.mem_of_getElem? (i := 34) rfl)) rfl
theorem se_M_isWork : Cond.selects (mm_R 10) k_M_isWork.1 k_M_isWork.1 ∈ mm_ws := mm_in (List.mem_append_left _ (List.mem_of_getElem? (i := 70) rfl)) rfl
theorem im_M_gods : Cond.instanceMethod k_M_gods.1 ∈ mm_ws := mm_in (mm_m6 (List.mem_of_getElem? (i := 215) rfl)) rfl
theorem se_M_gods : Cond.selects (mm_R 10) k_M_gods.1 k_M_gods.1 ∈ mm_ws := mm_in (List.mem_append_left _ (List.mem_of_getElem? (i := 58) rfl)) rfl
theorem im_M_comes : Cond.instanceMethod k_M_comes.1 ∈ mm_ws := mm_in (mm_m7 (List.mem_of_getElem? (i := 26) rfl)) rfl
theorem se_M_comes : Cond.selects (mm_R 10) k_M_comes.1 k_M_comes.1 ∈ mm_ws := mm_in (List.mem_append_left _ (List.mem_of_getElem? (i := 68) rfl)) rfl
theorem im_M_readyBy : Cond.instanceMethod k_M_readyBy.1 ∈ mm_ws := mm_in (mm_m7 (List.mem_of_getElem? (i := 38) rfl)) rfl
theorem se_M_readyBy : Cond.selects (mm_R 10) k_M_readyBy.1 k_M_readyBy.1 ∈ mm_ws := mm_in (List.mem_append_left _ (List.mem_of_getElem? (i := 71) rfl)) rfl
theorem im_M_worthOf : Cond.instanceMethod k_M_worthOf.1 ∈ mm_ws := mm_in (mm_m7 (List.mem_of_getElem? (i := 54) rfl)) rfl
theorem se_M_worthOf : Cond.selects (mm_R 10) k_M_worthOf.1 k_M_worthOf.1 ∈ mm_ws := mm_in (List.mem_append_left _ (List.mem_of_getElem? (i := 74) rfl)) rfl
theorem im_M_coast : Cond.instanceMethod k_M_coast.1 ∈ mm_ws := mm_in (mm_m6 (List.mem_of_getElem? (i := 202) rfl)) rfl
theorem se_M_coast : Cond.selects (mm_R 10) k_M_coast.1 k_M_coast.1 ∈ mm_ws := mm_in (mm_m6 (List.mem_of_getElem? (i := 203) rfl)) rfl
theorem im_M_deeds : Cond.instanceMethod k_M_deeds.1 ∈ mm_ws := mm_in (mm_m6 (List.mem_of_getElem? (i := 227) rfl)) rfl
theorem se_M_deeds : Cond.selects (mm_R 10) k_M_deeds.1 k_M_deeds.1 ∈ mm_ws := mm_in (List.mem_append_left _ (List.mem_of_getElem? (i := 60) rfl)) rfl
theorem im_M_deedOf : Cond.instanceMethod k_M_deedOf.1 ∈ mm_ws := mm_in (mm_m6 (List.mem_of_getElem? (i := 231) rfl)) rfl
theorem se_M_deedOf : Cond.selects (mm_R 10) k_M_deedOf.1 k_M_deedOf.1 ∈ mm_ws := mm_in (List.mem_append_left _ (List.mem_of_getElem? (i := 61) rfl)) rfl
theorem im_M_hasYear : Cond.instanceMethod k_M_hasYear.1 ∈ mm_ws := mm_in (mm_m6 (List.mem_of_getElem? (i := 223) rfl)) rfl
theorem se_M_hasYear : Cond.selects (mm_R 10) k_M_hasYear.1 k_M_hasYear.1 ∈ mm_ws := mm_in (List.mem_append_left _ (List.mem_of_getElem? (i := 59) rfl)) rfl
theorem im_M_deed : Cond.instanceMethod k_M_deed.1 ∈ mm_ws := mm_in (mm_m6 (List.mem_of_getElem? (i := 218) rfl)) rfl
theorem se_M_deed : Cond.selects (mm_R 10) k_M_deed.1 k_M_deed.1 ∈ mm_ws := mm_in (mm_m6 (List.mem_of_getElem? (i := 219) rfl)) rfl
theorem im_M_goesOn : Cond.instanceMethod k_M_goesOn.1 ∈ mm_ws := mm_in (mm_m7 (List.mem_of_getElem? (i := 42) rfl)) rfl
theorem se_M_goesOn : Cond.selects (mm_R 10) k_M_goesOn.1 k_M_goesOn.1 ∈ mm_ws := mm_in (List.mem_append_left _ (List.mem_of_getElem? (i := 72) rfl)) rfl
theorem im_M_asking : Cond.instanceMethod k_M_asking.1 ∈ mm_ws := mm_in (mm_m7 (List.mem_of_getElem? (i := 15) rfl)) rfl
theorem se_M_asking : Cond.selects (mm_R 10) k_M_asking.1 k_M_asking.1 ∈ mm_ws := mm_in (List.mem_append_left _ (List.mem_of_getElem? (i := 66) rfl)) rfl
theorem im_M_thanking : Cond.instanceMethod k_M_thanking.1 ∈ mm_ws := mm_in (mm_m7 (List.mem_of_getElem? (i := 30) rfl)) rfl
theorem se_M_thanking : Cond.selects (mm_R 10) k_M_thanking.1 k_M_thanking.1 ∈ mm_ws := mm_in (List.mem_append_left _ (List.mem_of_getElem? (i := 69) rfl)) rfl
theorem im_M_does : Cond.instanceMethod k_M_does.1 ∈ mm_ws := mm_in (mm_m7 (List.mem_of_getElem? (i := 11) rfl)) rfl
theorem se_M_does : Cond.selects (mm_R 10) k_M_does.1 k_M_does.1 ∈ mm_ws := mm_in (List.mem_append_left _ (List.mem_of_getElem? (i := 65) rfl)) rfl
theorem im_M_doesDeed : Cond.instanceMethod k_M_doesDeed.1 ∈ mm_ws := mm_in (mm_m7 (List.mem_of_getElem? (i := 7) rfl)) rfl
theorem se_M_doesDeed : Cond.selects (mm_R 10) k_M_doesDeed.1 k_M_doesDeed.1 ∈ mm_ws := mm_in (List.mem_append_left _ (List.mem_of_getElem? (i := 64) rfl)) rfl
theorem im_M_play : Cond.instanceMethod k_M_play.1 ∈ mm_ws := mm_in (mm_m7 (List.mem_of_getElem? (i := 3) rfl)) rfl
theorem se_M_play : Cond.selects (mm_R 10) k_M_play.1 k_M_play.1 ∈ mm_ws := mm_in (List.mem_append_left _ (List.mem_of_getElem? (i := 63) rfl)) rfl
theorem im_M_layAll : Cond.instanceMethod k_M_layAll.1 ∈ mm_ws := mm_in (mm_m6 (List.mem_of_getElem? (i := 239) rfl)) rfl
theorem se_M_layAll : Cond.selects (mm_R 10) k_M_layAll.1 k_M_layAll.1 ∈ mm_ws := mm_in (List.mem_append_left _ (List.mem_of_getElem? (i := 62) rfl)) rfl
theorem im_M_till : Cond.instanceMethod k_M_till.1 ∈ mm_ws := mm_in (mm_m6 (List.mem_of_getElem? (i := 234) rfl)) rfl
theorem se_M_till : Cond.selects (mm_R 10) k_M_till.1 k_M_till.1 ∈ mm_ws := mm_in (mm_m6 (List.mem_of_getElem? (i := 235) rfl)) rfl
theorem im_M_ofState : Cond.instanceMethod k_M_ofState.1 ∈ mm_ws := mm_in (mm_m7 (List.mem_of_getElem? (i := 50) rfl)) rfl
theorem se_M_ofState : Cond.selects (mm_R 10) k_M_ofState.1 k_M_ofState.1 ∈ mm_ws := mm_in (List.mem_append_left _ (List.mem_of_getElem? (i := 73) rfl)) rfl
theorem im_M_state : Cond.instanceMethod k_M_state.1 ∈ mm_ws := mm_in (mm_m7 (List.mem_of_getElem? (i := 45) rfl)) rfl
theorem se_M_state : Cond.selects (mm_R 10) k_M_state.1 k_M_state.1 ∈ mm_ws := mm_in (mm_m7 (List.mem_of_getElem? (i := 46) rfl)) rfl
theorem im_M_kth : Cond.instanceMethod k_M_kth.1 ∈ mm_ws := mm_in (mm_m7 (List.mem_of_getElem? (i := 73) rfl)) rfl
theorem se_M_kth : Cond.selects (mm_R 10) k_M_kth.1 k_M_kth.1 ∈ mm_ws := mm_in (List.mem_append_left _ (List.mem_of_getElem? (i := 77) rfl)) rfl
theorem im_M_callBy : Cond.instanceMethod k_M_callBy.1 ∈ mm_ws := mm_in (mm_m7 (List.mem_of_getElem? (i := 69) rfl)) rfl
theorem se_M_callBy : Cond.selects (mm_R 10) k_M_callBy.1 k_M_callBy.1 ∈ mm_ws := mm_in (List.mem_append_left _ (List.mem_of_getElem? (i := 76) rfl)) rfl
theorem im_M_findCalls : Cond.instanceMethod k_M_findCalls.1 ∈ mm_ws := mm_in (mm_m7 (List.mem_of_getElem? (i := 62) rfl)) rfl
theorem se_M_findCalls : Cond.selects (mm_R 10) k_M_findCalls.1 k_M_findCalls.1 ∈ mm_ws := mm_in (List.mem_append_left _ (List.mem_of_getElem? (i := 75) rfl)) rfl
theorem im_M_call : Cond.instanceMethod k_M_call.1 ∈ mm_ws := mm_in (mm_m7 (List.mem_of_getElem? (i := 57) rfl)) rfl
theorem se_M_call : Cond.selects (mm_R 10) k_M_call.1 k_M_call.1 ∈ mm_ws := mm_in (mm_m7 (List.mem_of_getElem? (i := 58) rfl)) rfl
theorem sm_M_fours : Cond.static k_M_fours.1 ∈ mm_ws := mm_in (mm_m7 (List.mem_of_getElem? (i := 84) rfl)) rfl
theorem im_M_whom : Cond.instanceMethod k_M_whom.1 ∈ mm_ws := mm_in (mm_m7 (List.mem_of_getElem? (i := 92) rfl)) rfl
theorem se_M_whom : Cond.selects (mm_R 10) k_M_whom.1 k_M_whom.1 ∈ mm_ws := mm_in (List.mem_append_left _ (List.mem_of_getElem? (i := 80) rfl)) rfl
theorem im_M_hereBy : Cond.instanceMethod k_M_hereBy.1 ∈ mm_ws := mm_in (mm_m7 (List.mem_of_getElem? (i := 88) rfl)) rfl
theorem se_M_hereBy : Cond.selects (mm_R 10) k_M_hereBy.1 k_M_hereBy.1 ∈ mm_ws := mm_in (List.mem_append_left _ (List.mem_of_getElem? (i := 79) rfl)) rfl
theorem im_M_feastOf : Cond.instanceMethod k_M_feastOf.1 ∈ mm_ws := mm_in (mm_m7 (List.mem_of_getElem? (i := 81) rfl)) rfl
theorem se_M_feastOf : Cond.selects (mm_R 10) k_M_feastOf.1 k_M_feastOf.1 ∈ mm_ws := mm_in (List.mem_append_left _ (List.mem_of_getElem? (i := 78) rfl)) rfl
theorem im_M_feast : Cond.instanceMethod k_M_feast.1 ∈ mm_ws := mm_in (mm_m7 (List.mem_of_getElem? (i := 76) rfl)) rfl
theorem se_M_feast : Cond.selects (mm_R 10) k_M_feast.1 k_M_feast.1 ∈ mm_ws := mm_in (mm_m7 (List.mem_of_getElem? (i := 77) rfl)) rfl
theorem sm_M_common : Cond.static k_M_common.1 ∈ mm_ws := mm_in (mm_m7 (List.mem_of_getElem? (i := 108) rfl)) rfl
theorem sm_M_part : Cond.static k_M_part.1 ∈ mm_ws := mm_in (mm_m7 (List.mem_of_getElem? (i := 105) rfl)) rfl
theorem im_M_chancesOf : Cond.instanceMethod k_M_chancesOf.1 ∈ mm_ws := mm_in (mm_m7 (List.mem_of_getElem? (i := 101) rfl)) rfl
theorem se_M_chancesOf : Cond.selects (mm_R 10) k_M_chancesOf.1 k_M_chancesOf.1 ∈ mm_ws := mm_in (List.mem_append_left _ (List.mem_of_getElem? (i := 81) rfl)) rfl
theorem im_M_odds : Cond.instanceMethod k_M_odds.1 ∈ mm_ws := mm_in (mm_m7 (List.mem_of_getElem? (i := 95) rfl)) rfl
theorem se_M_odds : Cond.selects (mm_R 10) k_M_odds.1 k_M_odds.1 ∈ mm_ws := mm_in (mm_m7 (List.mem_of_getElem? (i := 96) rfl)) rfl
theorem im_M_allGods : Cond.instanceMethod k_M_allGods.1 ∈ mm_ws := mm_in (mm_m7 (List.mem_of_getElem? (i := 116) rfl)) rfl
theorem se_M_allGods : Cond.selects (mm_R 10) k_M_allGods.1 k_M_allGods.1 ∈ mm_ws := mm_in (List.mem_append_left _ (List.mem_of_getElem? (i := 82) rfl)) rfl
theorem im_M_village : Cond.instanceMethod k_M_village.1 ∈ mm_ws := mm_in (mm_m7 (List.mem_of_getElem? (i := 111) rfl)) rfl
theorem se_M_village : Cond.selects (mm_R 10) k_M_village.1 k_M_village.1 ∈ mm_ws := mm_in (mm_m7 (List.mem_of_getElem? (i := 112) rfl)) rfl
theorem im_M_shares : Cond.instanceMethod k_M_shares.1 ∈ mm_ws := mm_in (mm_m7 (List.mem_of_getElem? (i := 132) rfl)) rfl
theorem se_M_shares : Cond.selects (mm_R 10) k_M_shares.1 k_M_shares.1 ∈ mm_ws := mm_in (List.mem_append_left _ (List.mem_of_getElem? (i := 85) rfl)) rfl
theorem im_M_isRow : Cond.instanceMethod k_M_isRow.1 ∈ mm_ws := mm_in (mm_m7 (List.mem_of_getElem? (i := 128) rfl)) rfl
theorem se_M_isRow : Cond.selects (mm_R 10) k_M_isRow.1 k_M_isRow.1 ∈ mm_ws := mm_in (List.mem_append_left _ (List.mem_of_getElem? (i := 84) rfl)) rfl
theorem im_M_boatsOf : Cond.instanceMethod k_M_boatsOf.1 ∈ mm_ws := mm_in (mm_m7 (List.mem_of_getElem? (i := 124) rfl)) rfl
theorem se_M_boatsOf : Cond.selects (mm_R 10) k_M_boatsOf.1 k_M_boatsOf.1 ∈ mm_ws := mm_in (List.mem_append_left _ (List.mem_of_getElem? (i := 83) rfl)) rfl
theorem im_M_boats : Cond.instanceMethod k_M_boats.1 ∈ mm_ws := mm_in (mm_m7 (List.mem_of_getElem? (i := 119) rfl)) rfl
theorem se_M_boats : Cond.selects (mm_R 10) k_M_boats.1 k_M_boats.1 ∈ mm_ws := mm_in (mm_m7 (List.mem_of_getElem? (i := 120) rfl)) rfl
theorem im_M_choiceOf : Cond.instanceMethod k_M_choiceOf.1 ∈ mm_ws := mm_in (mm_m7 (List.mem_of_getElem? (i := 147) rfl)) rfl
theorem se_M_choiceOf : Cond.selects (mm_R 10) k_M_choiceOf.1 k_M_choiceOf.1 ∈ mm_ws := mm_in (List.mem_append_left _ (List.mem_of_getElem? (i := 87) rfl)) rfl
theorem sm_M_rowsOf : Cond.static k_M_rowsOf.1 ∈ mm_ws := mm_in (mm_m7 (List.mem_of_getElem? (i := 139) rfl)) rfl
theorem im_M_endOf : Cond.instanceMethod k_M_endOf.1 ∈ mm_ws := mm_in (mm_m7 (List.mem_of_getElem? (i := 143) rfl)) rfl
theorem se_M_endOf : Cond.selects (mm_R 10) k_M_endOf.1 k_M_endOf.1 ∈ mm_ws := mm_in (List.mem_append_left _ (List.mem_of_getElem? (i := 86) rfl)) rfl
theorem im_M_fold : Cond.instanceMethod k_M_fold.1 ∈ mm_ws := mm_in (mm_m7 (List.mem_of_getElem? (i := 151) rfl)) rfl
theorem se_M_fold : Cond.selects (mm_R 10) k_M_fold.1 k_M_fold.1 ∈ mm_ws := mm_in (List.mem_append_left _ (List.mem_of_getElem? (i := 88) rfl)) rfl
theorem im_M_headland : Cond.instanceMethod k_M_headland.1 ∈ mm_ws := mm_in (mm_m7 (List.mem_of_getElem? (i := 135) rfl)) rfl
theorem se_M_headland : Cond.selects (mm_R 10) k_M_headland.1 k_M_headland.1 ∈ mm_ws := mm_in (mm_m7 (List.mem_of_getElem? (i := 136) rfl)) rfl
theorem im_M_waits : Cond.instanceMethod k_M_waits.1 ∈ mm_ws := mm_in (mm_m7 (List.mem_of_getElem? (i := 154) rfl)) rfl
theorem se_M_waits : Cond.selects (mm_R 10) k_M_waits.1 k_M_waits.1 ∈ mm_ws := mm_in (mm_m7 (List.mem_of_getElem? (i := 155) rfl)) rfl
theorem im_M_factOf : Cond.instanceMethod k_M_factOf.1 ∈ mm_ws := mm_in (mm_m7 (List.mem_of_getElem? (i := 171) rfl)) rfl
theorem se_M_factOf : Cond.selects (mm_R 10) k_M_factOf.1 k_M_factOf.1 ∈ mm_ws := mm_in (List.mem_append_left _ (List.mem_of_getElem? (i := 91) rfl)) rfl
theorem im_M_facts : Cond.instanceMethod k_M_facts.1 ∈ mm_ws := mm_in (mm_m7 (List.mem_of_getElem? (i := 167) rfl)) rfl
theorem se_M_facts : Cond.selects (mm_R 10) k_M_facts.1 k_M_facts.1 ∈ mm_ws := mm_in (List.mem_append_left _ (List.mem_of_getElem? (i := 90) rfl)) rfl
theorem im_M_hasLog : Cond.instanceMethod k_M_hasLog.1 ∈ mm_ws := mm_in (mm_m7 (List.mem_of_getElem? (i := 163) rfl)) rfl
theorem se_M_hasLog : Cond.selects (mm_R 10) k_M_hasLog.1 k_M_hasLog.1 ∈ mm_ws := mm_in (List.mem_append_left _ (List.mem_of_getElem? (i := 89) rfl)) rfl
theorem im_M_fact : Cond.instanceMethod k_M_fact.1 ∈ mm_ws := mm_in (mm_m7 (List.mem_of_getElem? (i := 158) rfl)) rfl
theorem se_M_fact : Cond.selects (mm_R 10) k_M_fact.1 k_M_fact.1 ∈ mm_ws := mm_in (mm_m7 (List.mem_of_getElem? (i := 159) rfl)) rfl
theorem im_M_isFit : Cond.instanceMethod k_M_isFit.1 ∈ mm_ws := mm_in (mm_m7 (List.mem_of_getElem? (i := 183) rfl)) rfl
theorem se_M_isFit : Cond.selects (mm_R 10) k_M_isFit.1 k_M_isFit.1 ∈ mm_ws := mm_in (List.mem_append_left _ (List.mem_of_getElem? (i := 93) rfl)) rfl
theorem im_M_layLog : Cond.instanceMethod k_M_layLog.1 ∈ mm_ws := mm_in (mm_m7 (List.mem_of_getElem? (i := 179) rfl)) rfl
theorem se_M_layLog : Cond.selects (mm_R 10) k_M_layLog.1 k_M_layLog.1 ∈ mm_ws := mm_in (List.mem_append_left _ (List.mem_of_getElem? (i := 92) rfl)) rfl
theorem im_M_manyHave : Cond.instanceMethod k_M_manyHave.1 ∈ mm_ws := mm_in (mm_m7 (List.mem_of_getElem? (i := 196) rfl)) rfl
theorem se_M_manyHave : Cond.selects (mm_R 10) k_M_manyHave.1 k_M_manyHave.1 ∈ mm_ws := mm_in (List.mem_append_left _ (List.mem_of_getElem? (i := 96) rfl)) rfl
theorem im_M_sure : Cond.instanceMethod k_M_sure.1 ∈ mm_ws := mm_in (mm_m7 (List.mem_of_getElem? (i := 187) rfl)) rfl
theorem se_M_sure : Cond.selects (mm_R 10) k_M_sure.1 k_M_sure.1 ∈ mm_ws := mm_in (List.mem_append_left _ (List.mem_of_getElem? (i := 94) rfl)) rfl
theorem im_M_next : Cond.instanceMethod k_M_next.1 ∈ mm_ws := mm_in (mm_m7 (List.mem_of_getElem? (i := 191) rfl)) rfl
theorem se_M_next : Cond.selects (mm_R 10) k_M_next.1 k_M_next.1 ∈ mm_ws := mm_in (List.mem_append_left _ (List.mem_of_getElem? (i := 95) rfl)) rfl
theorem im_M_fits : Cond.instanceMethod k_M_fits.1 ∈ mm_ws := mm_in (mm_m7 (List.mem_of_getElem? (i := 174) rfl)) rfl
theorem se_M_fits : Cond.selects (mm_R 10) k_M_fits.1 k_M_fits.1 ∈ mm_ws := mm_in (mm_m7 (List.mem_of_getElem? (i := 175) rfl)) rfl
theorem im_M_whose : Cond.instanceMethod k_M_whose.1 ∈ mm_ws := mm_in (mm_m7 (List.mem_of_getElem? (i := 202) rfl)) rfl
theorem se_M_whose : Cond.selects (mm_R 10) k_M_whose.1 k_M_whose.1 ∈ mm_ws := mm_in (mm_m7 (List.mem_of_getElem? (i := 203) rfl)) rfl
theorem im_M_draw : Cond.instanceMethod k_M_draw.1 ∈ mm_ws := mm_in (mm_m7 (List.mem_of_getElem? (i := 215) rfl)) rfl
theorem se_M_draw : Cond.selects (mm_R 10) k_M_draw.1 k_M_draw.1 ∈ mm_ws := mm_in (List.mem_append_left _ (List.mem_of_getElem? (i := 98) rfl)) rfl
theorem im_M_drawDeed : Cond.instanceMethod k_M_drawDeed.1 ∈ mm_ws := mm_in (mm_m7 (List.mem_of_getElem? (i := 211) rfl)) rfl
theorem se_M_drawDeed : Cond.selects (mm_R 10) k_M_drawDeed.1 k_M_drawDeed.1 ∈ mm_ws := mm_in (List.mem_append_left _ (List.mem_of_getElem? (i := 97) rfl)) rfl
theorem im_M_drawn : Cond.instanceMethod k_M_drawn.1 ∈ mm_ws := mm_in (mm_m7 (List.mem_of_getElem? (i := 206) rfl)) rfl
theorem se_M_drawn : Cond.selects (mm_R 10) k_M_drawn.1 k_M_drawn.1 ∈ mm_ws := mm_in (mm_m7 (List.mem_of_getElem? (i := 207) rfl)) rfl
theorem im_M_kin : Cond.instanceMethod k_M_kin.1 ∈ mm_ws := mm_in (mm_m7 (List.mem_of_getElem? (i := 219) rfl)) rfl
theorem se_M_kin : Cond.selects (mm_R 10) k_M_kin.1 k_M_kin.1 ∈ mm_ws := mm_in (mm_m7 (List.mem_of_getElem? (i := 220) rfl)) rfl
theorem im_M_clanOf : Cond.instanceMethod k_M_clanOf.1 ∈ mm_ws := mm_in (mm_m7 (List.mem_of_getElem? (i := 228) rfl)) rfl
theorem se_M_clanOf : Cond.selects (mm_R 10) k_M_clanOf.1 k_M_clanOf.1 ∈ mm_ws := mm_in (List.mem_append_left _ (List.mem_of_getElem? (i := 99) rfl)) rfl
theorem im_M_clans : Cond.instanceMethod k_M_clans.1 ∈ mm_ws := mm_in (mm_m7 (List.mem_of_getElem? (i := 232) rfl)) rfl
theorem se_M_clans : Cond.selects (mm_R 10) k_M_clans.1 k_M_clans.1 ∈ mm_ws := mm_in (List.mem_append_left _ (List.mem_of_getElem? (i := 100) rfl)) rfl
theorem im_M_twins : Cond.instanceMethod k_M_twins.1 ∈ mm_ws := mm_in (mm_m7 (List.mem_of_getElem? (i := 236) rfl)) rfl
theorem se_M_twins : Cond.selects (mm_R 10) k_M_twins.1 k_M_twins.1 ∈ mm_ws := mm_in (List.mem_append_left _ (List.mem_of_getElem? (i := 101) rfl)) rfl
theorem im_M_raft : Cond.instanceMethod k_M_raft.1 ∈ mm_ws := mm_in (mm_m8 (List.mem_of_getElem? (i := 0) rfl)) rfl
theorem se_M_raft : Cond.selects (mm_R 10) k_M_raft.1 k_M_raft.1 ∈ mm_ws := mm_in (List.mem_append_left _ (List.mem_of_getElem? (i := 102) rfl)) rfl
theorem im_M_couples : Cond.instanceMethod k_M_couples.1 ∈ mm_ws := mm_in (mm_m8 (List.mem_of_getElem? (i := 4) rfl)) rfl
theorem se_M_couples : Cond.selects (mm_R 10) k_M_couples.1 k_M_couples.1 ∈ mm_ws := mm_in (List.mem_append_left _ (List.mem_of_getElem? (i := 103) rfl)) rfl
theorem im_M_rivals : Cond.instanceMethod k_M_rivals.1 ∈ mm_ws := mm_in (mm_m8 (List.mem_of_getElem? (i := 8) rfl)) rfl
theorem se_M_rivals : Cond.selects (mm_R 10) k_M_rivals.1 k_M_rivals.1 ∈ mm_ws := mm_in (List.mem_append_left _ (List.mem_of_getElem? (i := 104) rfl)) rfl
theorem im_M_calm : Cond.instanceMethod k_M_calm.1 ∈ mm_ws := mm_in (mm_m8 (List.mem_of_getElem? (i := 12) rfl)) rfl
theorem se_M_calm : Cond.selects (mm_R 10) k_M_calm.1 k_M_calm.1 ∈ mm_ws := mm_in (List.mem_append_left _ (List.mem_of_getElem? (i := 105) rfl)) rfl
theorem im_M_clan : Cond.instanceMethod k_M_clan.1 ∈ mm_ws := mm_in (mm_m7 (List.mem_of_getElem? (i := 223) rfl)) rfl
theorem se_M_clan : Cond.selects (mm_R 10) k_M_clan.1 k_M_clan.1 ∈ mm_ws := mm_in (mm_m7 (List.mem_of_getElem? (i := 224) rfl)) rfl
theorem im_M_dearest : Cond.instanceMethod k_M_dearest.1 ∈ mm_ws := mm_in (mm_m8 (List.mem_of_getElem? (i := 20) rfl)) rfl
theorem se_M_dearest : Cond.selects (mm_R 10) k_M_dearest.1 k_M_dearest.1 ∈ mm_ws := mm_in (List.mem_append_left _ (List.mem_of_getElem? (i := 106) rfl)) rfl
theorem im_M_lone : Cond.instanceMethod k_M_lone.1 ∈ mm_ws := mm_in (mm_m8 (List.mem_of_getElem? (i := 15) rfl)) rfl
theorem se_M_lone : Cond.selects (mm_R 10) k_M_lone.1 k_M_lone.1 ∈ mm_ws := mm_in (mm_m8 (List.mem_of_getElem? (i := 16) rfl)) rfl
theorem im_M_near : Cond.instanceMethod k_M_near.1 ∈ mm_ws := mm_in (mm_m8 (List.mem_of_getElem? (i := 23) rfl)) rfl
theorem se_M_near : Cond.selects (mm_R 10) k_M_near.1 k_M_near.1 ∈ mm_ws := mm_in (mm_m8 (List.mem_of_getElem? (i := 24) rfl)) rfl
theorem im_M_rungBy : Cond.instanceMethod k_M_rungBy.1 ∈ mm_ws := mm_in (mm_m8 (List.mem_of_getElem? (i := 36) rfl)) rfl
theorem se_M_rungBy : Cond.selects (mm_R 10) k_M_rungBy.1 k_M_rungBy.1 ∈ mm_ws := mm_in (List.mem_append_left _ (List.mem_of_getElem? (i := 108) rfl)) rfl
theorem im_M_findRungs : Cond.instanceMethod k_M_findRungs.1 ∈ mm_ws := mm_in (mm_m8 (List.mem_of_getElem? (i := 32) rfl)) rfl
theorem se_M_findRungs : Cond.selects (mm_R 10) k_M_findRungs.1 k_M_findRungs.1 ∈ mm_ws := mm_in (List.mem_append_left _ (List.mem_of_getElem? (i := 107) rfl)) rfl
theorem im_M_ladder : Cond.instanceMethod k_M_ladder.1 ∈ mm_ws := mm_in (mm_m8 (List.mem_of_getElem? (i := 27) rfl)) rfl
theorem se_M_ladder : Cond.selects (mm_R 10) k_M_ladder.1 k_M_ladder.1 ∈ mm_ws := mm_in (mm_m8 (List.mem_of_getElem? (i := 28) rfl)) rfl
theorem im_M_storm : Cond.instanceMethod k_M_storm.1 ∈ mm_ws := mm_in (mm_m8 (List.mem_of_getElem? (i := 39) rfl)) rfl
theorem se_M_storm : Cond.selects (mm_R 10) k_M_storm.1 k_M_storm.1 ∈ mm_ws := mm_in (mm_m8 (List.mem_of_getElem? (i := 40) rfl)) rfl
theorem im_M_lack : Cond.instanceMethod k_M_lack.1 ∈ mm_ws := mm_in (mm_m8 (List.mem_of_getElem? (i := 43) rfl)) rfl
theorem se_M_lack : Cond.selects (mm_R 10) k_M_lack.1 k_M_lack.1 ∈ mm_ws := mm_in (mm_m8 (List.mem_of_getElem? (i := 44) rfl)) rfl
theorem im_M_busy : Cond.instanceMethod k_M_busy.1 ∈ mm_ws := mm_in (mm_m8 (List.mem_of_getElem? (i := 47) rfl)) rfl
theorem se_M_busy : Cond.selects (mm_R 10) k_M_busy.1 k_M_busy.1 ∈ mm_ws := mm_in (mm_m8 (List.mem_of_getElem? (i := 48) rfl)) rfl
theorem im_M_allAsk : Cond.instanceMethod k_M_allAsk.1 ∈ mm_ws := mm_in (mm_m8 (List.mem_of_getElem? (i := 56) rfl)) rfl
theorem se_M_allAsk : Cond.selects (mm_R 10) k_M_allAsk.1 k_M_allAsk.1 ∈ mm_ws := mm_in (List.mem_append_left _ (List.mem_of_getElem? (i := 109) rfl)) rfl
theorem im_M_lots : Cond.instanceMethod k_M_lots.1 ∈ mm_ws := mm_in (mm_m8 (List.mem_of_getElem? (i := 51) rfl)) rfl
theorem se_M_lots : Cond.selects (mm_R 10) k_M_lots.1 k_M_lots.1 ∈ mm_ws := mm_in (mm_m8 (List.mem_of_getElem? (i := 52) rfl)) rfl
theorem im_M_heir : Cond.instanceMethod k_M_heir.1 ∈ mm_ws := mm_in (mm_m8 (List.mem_of_getElem? (i := 59) rfl)) rfl
theorem se_M_heir : Cond.selects (mm_R 10) k_M_heir.1 k_M_heir.1 ∈ mm_ws := mm_in (mm_m8 (List.mem_of_getElem? (i := 60) rfl)) rfl
theorem im_M_doable : Cond.instanceMethod k_M_doable.1 ∈ mm_ws := mm_in (mm_m8 (List.mem_of_getElem? (i := 68) rfl)) rfl
theorem se_M_doable : Cond.selects (mm_R 10) k_M_doable.1 k_M_doable.1 ∈ mm_ws := mm_in (List.mem_append_left _ (List.mem_of_getElem? (i := 110) rfl)) rfl
theorem im_M_planDays : Cond.instanceMethod k_M_planDays.1 ∈ mm_ws := mm_in (mm_m8 (List.mem_of_getElem? (i := 72) rfl)) rfl
theorem se_M_planDays : Cond.selects (mm_R 10) k_M_planDays.1 k_M_planDays.1 ∈ mm_ws := mm_in (List.mem_append_left _ (List.mem_of_getElem? (i := 111) rfl)) rfl
theorem im_M_plan : Cond.instanceMethod k_M_plan.1 ∈ mm_ws := mm_in (mm_m8 (List.mem_of_getElem? (i := 63) rfl)) rfl
theorem se_M_plan : Cond.selects (mm_R 10) k_M_plan.1 k_M_plan.1 ∈ mm_ws := mm_in (mm_m8 (List.mem_of_getElem? (i := 64) rfl)) rfl
theorem im_M_levy : Cond.instanceMethod k_M_levy.1 ∈ mm_ws := mm_in (mm_m8 (List.mem_of_getElem? (i := 75) rfl)) rfl
theorem se_M_levy : Cond.selects (mm_R 10) k_M_levy.1 k_M_levy.1 ∈ mm_ws := mm_in (mm_m8 (List.mem_of_getElem? (i := 76) rfl)) rfl
theorem im_M_ready : Cond.instanceMethod k_M_ready.1 ∈ mm_ws := mm_in (mm_m8 (List.mem_of_getElem? (i := 79) rfl)) rfl
theorem se_M_ready : Cond.selects (mm_R 10) k_M_ready.1 k_M_ready.1 ∈ mm_ws := mm_in (mm_m8 (List.mem_of_getElem? (i := 80) rfl)) rfl
theorem im_M_hope : Cond.instanceMethod k_M_hope.1 ∈ mm_ws := mm_in (mm_m8 (List.mem_of_getElem? (i := 83) rfl)) rfl
theorem se_M_hope : Cond.selects (mm_R 10) k_M_hope.1 k_M_hope.1 ∈ mm_ws := mm_in (mm_m8 (List.mem_of_getElem? (i := 84) rfl)) rfl
theorem im_M_pair : Cond.instanceMethod k_M_pair.1 ∈ mm_ws := mm_in (mm_m8 (List.mem_of_getElem? (i := 87) rfl)) rfl
theorem se_M_pair : Cond.selects (mm_R 10) k_M_pair.1 k_M_pair.1 ∈ mm_ws := mm_in (mm_m8 (List.mem_of_getElem? (i := 88) rfl)) rfl
theorem im_M_seat : Cond.instanceMethod k_M_seat.1 ∈ mm_ws := mm_in (mm_m8 (List.mem_of_getElem? (i := 91) rfl)) rfl
theorem se_M_seat : Cond.selects (mm_R 10) k_M_seat.1 k_M_seat.1 ∈ mm_ws := mm_in (mm_m8 (List.mem_of_getElem? (i := 92) rfl)) rfl
theorem im_M_tide : Cond.instanceMethod k_M_tide.1 ∈ mm_ws := mm_in (mm_m8 (List.mem_of_getElem? (i := 95) rfl)) rfl
theorem se_M_tide : Cond.selects (mm_R 10) k_M_tide.1 k_M_tide.1 ∈ mm_ws := mm_in (mm_m8 (List.mem_of_getElem? (i := 96) rfl)) rfl
theorem im_M_first : Cond.instanceMethod k_M_first.1 ∈ mm_ws := mm_in (mm_m8 (List.mem_of_getElem? (i := 99) rfl)) rfl
theorem se_M_first : Cond.selects (mm_R 10) k_M_first.1 k_M_first.1 ∈ mm_ws := mm_in (mm_m8 (List.mem_of_getElem? (i := 100) rfl)) rfl
theorem im_M_kept : Cond.instanceMethod k_M_kept.1 ∈ mm_ws := mm_in (mm_m8 (List.mem_of_getElem? (i := 103) rfl)) rfl
theorem se_M_kept : Cond.selects (mm_R 10) k_M_kept.1 k_M_kept.1 ∈ mm_ws := mm_in (mm_m8 (List.mem_of_getElem? (i := 104) rfl)) rfl
theorem im_M_firstCross : Cond.instanceMethod k_M_firstCross.1 ∈ mm_ws := mm_in (mm_m8 (List.mem_of_getElem? (i := 112) rfl)) rfl
theorem se_M_firstCross : Cond.selects (mm_R 10) k_M_firstCross.1 k_M_firstCross.1 ∈ mm_ws := mm_in (List.mem_append_left _ (List.mem_of_getElem? (i := 112) rfl)) rfl
theorem im_M_eager : Cond.instanceMethod k_M_eager.1 ∈ mm_ws := mm_in (mm_m8 (List.mem_of_getElem? (i := 116) rfl)) rfl
theorem se_M_eager : Cond.selects (mm_R 10) k_M_eager.1 k_M_eager.1 ∈ mm_ws := mm_in (List.mem_append_left _ (List.mem_of_getElem? (i := 113) rfl)) rfl
theorem im_M_after : Cond.instanceMethod k_M_after.1 ∈ mm_ws := mm_in (mm_m8 (List.mem_of_getElem? (i := 107) rfl)) rfl
theorem se_M_after : Cond.selects (mm_R 10) k_M_after.1 k_M_after.1 ∈ mm_ws := mm_in (mm_m8 (List.mem_of_getElem? (i := 108) rfl)) rfl
theorem im_M_share : Cond.instanceMethod k_M_share.1 ∈ mm_ws := mm_in (mm_m8 (List.mem_of_getElem? (i := 119) rfl)) rfl
theorem se_M_share : Cond.selects (mm_R 10) k_M_share.1 k_M_share.1 ∈ mm_ws := mm_in (mm_m8 (List.mem_of_getElem? (i := 120) rfl)) rfl
theorem im_M_count : Cond.instanceMethod k_M_count.1 ∈ mm_ws := mm_in (mm_m8 (List.mem_of_getElem? (i := 123) rfl)) rfl
theorem se_M_count : Cond.selects (mm_R 10) k_M_count.1 k_M_count.1 ∈ mm_ws := mm_in (mm_m8 (List.mem_of_getElem? (i := 124) rfl)) rfl
theorem im_M_image : Cond.instanceMethod k_M_image.1 ∈ mm_ws := mm_in (mm_m8 (List.mem_of_getElem? (i := 127) rfl)) rfl
theorem se_M_image : Cond.selects (mm_R 10) k_M_image.1 k_M_image.1 ∈ mm_ws := mm_in (mm_m8 (List.mem_of_getElem? (i := 128) rfl)) rfl
theorem im_M_again : Cond.instanceMethod k_M_again.1 ∈ mm_ws := mm_in (mm_m8 (List.mem_of_getElem? (i := 138) rfl)) rfl
theorem se_M_again : Cond.selects (mm_R 10) k_M_again.1 k_M_again.1 ∈ mm_ws := mm_in (mm_m8 (List.mem_of_getElem? (i := 139) rfl)) rfl
theorem sm_Int_numberOfTrailingZeros : Cond.static k_Int_numberOfTrailingZeros.1 ∈ mm_ws := mm_in (mm_m4 (List.mem_of_getElem? (i := 13) rfl)) rfl
theorem sm_Int_bitCount : Cond.static k_Int_bitCount.1 ∈ mm_ws := mm_in (mm_m3 (List.mem_of_getElem? (i := 210) rfl)) rfl
theorem sm_Mth_max : Cond.static k_Mth_max.1 ∈ mm_ws := mm_in (mm_m3 (List.mem_of_getElem? (i := 117) rfl)) rfl
theorem sm_Mth_min : Cond.static k_Mth_min.1 ∈ mm_ws := mm_in (mm_m2 (List.mem_of_getElem? (i := 181) rfl)) rfl
theorem im_Str_length : Cond.instanceMethod k_Str_length.1 ∈ mm_ws := mm_in (mm_m2 (List.mem_of_getElem? (i := 228) rfl)) rfl
theorem im_Str_charAt : Cond.instanceMethod k_Str_charAt.1 ∈ mm_ws := mm_in (mm_m2 (List.mem_of_getElem? (i := 238) rfl)) rfl
theorem im_Str_coder : Cond.instanceMethod k_Str_coder.1 ∈ mm_ws := mm_in (mm_m2 (List.mem_of_getElem? (i := 232) rfl)) rfl
theorem im_Str_isLatin1 : Cond.instanceMethod k_Str_isLatin1.1 ∈ mm_ws := mm_in (mm_m3 (List.mem_of_getElem? (i := 2) rfl)) rfl
theorem sm_Str_checkIndex : Cond.static k_Str_checkIndex.1 ∈ mm_ws := mm_in (mm_m3 (List.mem_of_getElem? (i := 9) rfl)) rfl
theorem sm_Lat_charAt : Cond.static k_Lat_charAt.1 ∈ mm_ws := mm_in (mm_m3 (List.mem_of_getElem? (i := 6) rfl)) rfl
theorem sm_Utf_getChar : Cond.static k_Utf_getChar.1 ∈ mm_ws := mm_in (mm_m3 (List.mem_of_getElem? (i := 27) rfl)) rfl
theorem sm_Utf_length : Cond.static k_Utf_length.1 ∈ mm_ws := mm_in (mm_m3 (List.mem_of_getElem? (i := 23) rfl)) rfl
theorem sm_Utf_charAt : Cond.static k_Utf_charAt.1 ∈ mm_ws := mm_in (mm_m3 (List.mem_of_getElem? (i := 17) rfl)) rfl
theorem sm_Utf_checkIndex : Cond.static k_Utf_checkIndex.1 ∈ mm_ws := mm_in (mm_m3 (List.mem_of_getElem? (i := 20) rfl)) rfl
theorem sm_Arr_fillJ : Cond.static k_Arr_fillJ.1 ∈ mm_ws := mm_in (mm_m5 (List.mem_of_getElem? (i := 39) rfl)) rfl
theorem sm_Arr_fillI : Cond.static k_Arr_fillI.1 ∈ mm_ws := mm_in (mm_m2 (List.mem_of_getElem? (i := 188) rfl)) rfl
theorem sm_Pre_checkIndex : Cond.static k_Pre_checkIndex.1 ∈ mm_ws := mm_in (mm_m3 (List.mem_of_getElem? (i := 14) rfl)) rfl
theorem cl_law_7 : Cond.classLink "GodWeathersLaw" 7 "GodWeathers" ∈ mm_ws := mm_in (mm_m1 (List.mem_of_getElem? (i := 21) rfl)) rfl
theorem cl_G_7 : Cond.classLink "GodWeathers" 7 "GodWeathers$Told" ∈ mm_ws := mm_in (mm_m1 (List.mem_of_getElem? (i := 29) rfl)) rfl
theorem cl_To_15 : Cond.classLink "GodWeathers$Told" 15 "GodWeathers$Coast" ∈ mm_ws := mm_in (mm_m1 (List.mem_of_getElem? (i := 35) rfl)) rfl
theorem cl_To_22 : Cond.classLink "GodWeathers$Told" 22 "GodWeathers$Year" ∈ mm_ws := mm_in (mm_m1 (List.mem_of_getElem? (i := 92) rfl)) rfl
theorem cl_To_29 : Cond.classLink "GodWeathers$Told" 29 "GodWeathers$Log" ∈ mm_ws := mm_in (mm_m1 (List.mem_of_getElem? (i := 118) rfl)) rfl
theorem cl_G_20 : Cond.classLink "GodWeathers" 20 "GodWeathers$Reader" ∈ mm_ws := mm_in (mm_m1 (List.mem_of_getElem? (i := 168) rfl)) rfl
theorem cl_Re_9 : Cond.classLink "GodWeathers$Reader" 9 "GodWeathers$Coast" ∈ mm_ws := mm_in (mm_m1 (List.mem_of_getElem? (i := 174) rfl)) rfl
theorem cl_Re_18 : Cond.classLink "GodWeathers$Reader" 18 "GodWeathers$Year" ∈ mm_ws := mm_in (mm_m1 (List.mem_of_getElem? (i := 176) rfl)) rfl
theorem cl_Re_25 : Cond.classLink "GodWeathers$Reader" 25 "GodWeathers$Log" ∈ mm_ws := mm_in (mm_m1 (List.mem_of_getElem? (i := 178) rfl)) rfl
theorem cl_G_27 : Cond.classLink "GodWeathers" 27 "GodWeathers$Days" ∈ mm_ws := mm_in (mm_m1 (List.mem_of_getElem? (i := 231) rfl)) rfl
theorem cl_G_34 : Cond.classLink "GodWeathers" 34 "GodWeathers$Asking" ∈ mm_ws := mm_in (mm_m2 (List.mem_of_getElem? (i := 45) rfl)) rfl
theorem cl_G_41 : Cond.classLink "GodWeathers" 41 "GodWeathers$Boats" ∈ mm_ws := mm_in (mm_m2 (List.mem_of_getElem? (i := 81) rfl)) rfl
theorem cl_G_48 : Cond.classLink "GodWeathers" 48 "GodWeathers$Sky" ∈ mm_ws := mm_in (mm_m2 (List.mem_of_getElem? (i := 104) rfl)) rfl
theorem cl_law_10 : Cond.classLink "GodWeathersLaw" 10 "GodWeathersModel" ∈ mm_ws := mm_in (mm_m5 (List.mem_of_getElem? (i := 165) rfl)) rfl
theorem cn_Int_265 : Cond.constant "java/lang/Integer" 265 1431655765 ∈ mm_ws := mm_in (mm_m3 (List.mem_of_getElem? (i := 212) rfl)) rfl
theorem cn_Int_266 : Cond.constant "java/lang/Integer" 266 858993459 ∈ mm_ws := mm_in (mm_m3 (List.mem_of_getElem? (i := 213) rfl)) rfl
theorem cn_Int_267 : Cond.constant "java/lang/Integer" 267 252645135 ∈ mm_ws := mm_in (mm_m3 (List.mem_of_getElem? (i := 214) rfl)) rfl
theorem cn_Int_264 : Cond.constant "java/lang/Integer" 264 65536 ∈ mm_ws := mm_in (mm_m4 (List.mem_of_getElem? (i := 15) rfl)) rfl
theorem cn_Da_117 : Cond.constant "GodWeathers$Days" 117 1103515245 ∈ mm_ws := mm_in (mm_m4 (List.mem_of_getElem? (i := 188) rfl)) rfl
theorem cn_M_412 : Cond.constant "GodWeathersModel" 412 1000000 ∈ mm_ws := mm_in (mm_m7 (List.mem_of_getElem? (i := 193) rfl)) rfl
theorem cn_M_431 : Cond.constant "GodWeathersModel" 431 1103515245 ∈ mm_ws := mm_in (mm_m7 (List.mem_of_getElem? (i := 217) rfl)) rfl
theorem cn_G_143 : Cond.constantLong "GodWeathers" 143 (-1) ∈ mm_ws := mm_in (mm_m4 (List.mem_of_getElem? (i := 62) rfl)) rfl
theorem cn_Co_63 : Cond.constantLong "GodWeathers$Coast" 63 10 ∈ mm_ws := mm_in (mm_m4 (List.mem_of_getElem? (i := 71) rfl)) rfl
theorem cn_G_172 : Cond.constantLong "GodWeathers" 172 10 ∈ mm_ws := mm_in (mm_m4 (List.mem_of_getElem? (i := 126) rfl)) rfl
theorem cn_G_254 : Cond.constantLong "GodWeathers" 254 100000000 ∈ mm_ws := mm_in (mm_m5 (List.mem_of_getElem? (i := 42) rfl)) rfl
theorem cn_G_262 : Cond.constantLong "GodWeathers" 262 3 ∈ mm_ws := mm_in (mm_m5 (List.mem_of_getElem? (i := 56) rfl)) rfl
theorem cn_M_163 : Cond.constantLong "GodWeathersModel" 163 426953501796 ∈ mm_ws := mm_in (mm_m6 (List.mem_of_getElem? (i := 129) rfl)) rfl
theorem cn_M_165 : Cond.constantLong "GodWeathersModel" 165 2003792491 ∈ mm_ws := mm_in (mm_m6 (List.mem_of_getElem? (i := 130) rfl)) rfl
theorem cn_M_177 : Cond.constantLong "GodWeathersModel" 177 33606991467799922 ∈ mm_ws := mm_in (mm_m6 (List.mem_of_getElem? (i := 159) rfl)) rfl
theorem cn_M_179 : Cond.constantLong "GodWeathersModel" 179 8097881601010983781 ∈ mm_ws := mm_in (mm_m6 (List.mem_of_getElem? (i := 160) rfl)) rfl
theorem cn_M_181 : Cond.constantLong "GodWeathersModel" 181 122528713372517 ∈ mm_ws := mm_in (mm_m6 (List.mem_of_getElem? (i := 161) rfl)) rfl
theorem cn_M_183 : Cond.constantLong "GodWeathersModel" 183 474147546227 ∈ mm_ws := mm_in (mm_m6 (List.mem_of_getElem? (i := 162) rfl)) rfl
theorem cn_M_191 : Cond.constantLong "GodWeathersModel" 191 6386539 ∈ mm_ws := mm_in (mm_m6 (List.mem_of_getElem? (i := 178) rfl)) rfl
theorem cn_M_193 : Cond.constantLong "GodWeathersModel" 193 499967422059 ∈ mm_ws := mm_in (mm_m6 (List.mem_of_getElem? (i := 179) rfl)) rfl
theorem cn_M_195 : Cond.constantLong "GodWeathersModel" 195 1668246885 ∈ mm_ws := mm_in (mm_m6 (List.mem_of_getElem? (i := 180) rfl)) rfl
theorem cn_M_197 : Cond.constantLong "GodWeathersModel" 197 25711 ∈ mm_ws := mm_in (mm_m6 (List.mem_of_getElem? (i := 181) rfl)) rfl
theorem cn_M_199 : Cond.constantLong "GodWeathersModel" 199 6578553 ∈ mm_ws := mm_in (mm_m6 (List.mem_of_getElem? (i := 182) rfl)) rfl
theorem cn_M_204 : Cond.constantLong "GodWeathersModel" 204 448377483876 ∈ mm_ws := mm_in (mm_m6 (List.mem_of_getElem? (i := 191) rfl)) rfl
theorem cn_M_206 : Cond.constantLong "GodWeathersModel" 206 1684365670 ∈ mm_ws := mm_in (mm_m6 (List.mem_of_getElem? (i := 192) rfl)) rfl
theorem cn_M_358 : Cond.constantLong "GodWeathersModel" 358 (-1) ∈ mm_ws := mm_in (mm_m7 (List.mem_of_getElem? (i := 98) rfl)) rfl
theorem cn_M_356 : Cond.constantLong "GodWeathersModel" 356 10 ∈ mm_ws := mm_in (mm_m7 (List.mem_of_getElem? (i := 103) rfl)) rfl
