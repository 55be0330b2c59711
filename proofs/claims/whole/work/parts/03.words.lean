/-! WORDS of fields, calls, methods, constants: each is among the tables' -/
theorem w_f_By_9 : Cond.fieldLink "ObservedBlocks$Bytes" 9 (T_0 0).1 (T_0 0).2.1 (T_0 0).2.2.1 ∈ ob_T := List.mem_filter.mpr ⟨List.mem_of_getElem? (i := 101) (by decide +kernel), by decide +kernel⟩
theorem w_f_Ms_59 : Cond.fieldLink "ObservedBlocks$Message" 59 (T_0 0).1 (T_0 0).2.1 (T_0 0).2.2.1 ∈ ob_T := List.mem_filter.mpr ⟨List.mem_of_getElem? (i := 102) (by decide +kernel), by decide +kernel⟩
theorem w_f_Ob_137 : Cond.fieldLink "ObservedBlocks" 137 (T_0 0).1 (T_0 0).2.1 (T_0 0).2.2.1 ∈ ob_T := List.mem_filter.mpr ⟨List.mem_of_getElem? (i := 103) (by decide +kernel), by decide +kernel⟩
theorem w_f_By_15 : Cond.fieldLink "ObservedBlocks$Bytes" 15 (T_0 1).1 (T_0 1).2.1 (T_0 1).2.2.1 ∈ ob_T := List.mem_filter.mpr ⟨List.mem_of_getElem? (i := 104) (by decide +kernel), by decide +kernel⟩
theorem w_f_Se_52 : Cond.fieldLink "ObservedBlocks$Server" 52 (T_0 1).1 (T_0 1).2.1 (T_0 1).2.2.1 ∈ ob_T := List.mem_filter.mpr ⟨List.mem_of_getElem? (i := 105) (by decide +kernel), by decide +kernel⟩
theorem w_f_Ms_56 : Cond.fieldLink "ObservedBlocks$Message" 56 (T_0 1).1 (T_0 1).2.1 (T_0 1).2.2.1 ∈ ob_T := List.mem_filter.mpr ⟨List.mem_of_getElem? (i := 106) (by decide +kernel), by decide +kernel⟩
theorem w_f_Sl_81 : Cond.fieldLink "ObservedBlocks$Slot" 81 (T_0 1).1 (T_0 1).2.1 (T_0 1).2.2.1 ∈ ob_T := List.mem_filter.mpr ⟨List.mem_of_getElem? (i := 107) (by decide +kernel), by decide +kernel⟩
theorem w_f_Ob_140 : Cond.fieldLink "ObservedBlocks" 140 (T_0 1).1 (T_0 1).2.1 (T_0 1).2.2.1 ∈ ob_T := List.mem_filter.mpr ⟨List.mem_of_getElem? (i := 108) (by decide +kernel), by decide +kernel⟩
theorem w_f_Li_11 : Cond.fieldLink "ObservedBlocks$Line" 11 (T_1 0).1 (T_1 0).2.1 (T_1 0).2.2.1 ∈ ob_T := List.mem_filter.mpr ⟨List.mem_of_getElem? (i := 115) (by decide +kernel), by decide +kernel⟩
theorem w_f_Ob_104 : Cond.fieldLink "ObservedBlocks" 104 (T_1 0).1 (T_1 0).2.1 (T_1 0).2.2.1 ∈ ob_T := List.mem_filter.mpr ⟨List.mem_of_getElem? (i := 116) (by decide +kernel), by decide +kernel⟩
theorem w_f_Li_17 : Cond.fieldLink "ObservedBlocks$Line" 17 (T_1 1).1 (T_1 1).2.1 (T_1 1).2.2.1 ∈ ob_T := List.mem_filter.mpr ⟨List.mem_of_getElem? (i := 117) (by decide +kernel), by decide +kernel⟩
theorem w_f_Ob_100 : Cond.fieldLink "ObservedBlocks" 100 (T_1 1).1 (T_1 1).2.1 (T_1 1).2.2.1 ∈ ob_T := List.mem_filter.mpr ⟨List.mem_of_getElem? (i := 118) (by decide +kernel), by decide +kernel⟩
theorem w_f_Li_24 : Cond.fieldLink "ObservedBlocks$Line" 24 (T_1 2).1 (T_1 2).2.1 (T_1 2).2.2.1 ∈ ob_T := List.mem_filter.mpr ⟨List.mem_of_getElem? (i := 119) (by decide +kernel), by decide +kernel⟩
theorem w_f_Ob_129 : Cond.fieldLink "ObservedBlocks" 129 (T_1 2).1 (T_1 2).2.1 (T_1 2).2.2.1 ∈ ob_T := List.mem_filter.mpr ⟨List.mem_of_getElem? (i := 120) (by decide +kernel), by decide +kernel⟩
theorem w_f_Pe_14 : Cond.fieldLink "ObservedBlocks$Pending" 14 (T_3 0).1 (T_3 0).2.1 (T_3 0).2.2.1 ∈ ob_T := List.mem_filter.mpr ⟨List.mem_of_getElem? (i := 151) (by decide +kernel), by decide +kernel⟩
theorem w_f_Cl_168 : Cond.fieldLink "ObservedBlocks$Client" 168 (T_3 0).1 (T_3 0).2.1 (T_3 0).2.2.1 ∈ ob_T := List.mem_filter.mpr ⟨List.mem_of_getElem? (i := 152) (by decide +kernel), by decide +kernel⟩
theorem w_f_Se_231 : Cond.fieldLink "ObservedBlocks$Server" 231 (T_3 0).1 (T_3 0).2.1 (T_3 0).2.2.1 ∈ ob_T := List.mem_filter.mpr ⟨List.mem_of_getElem? (i := 153) (by decide +kernel), by decide +kernel⟩
theorem w_f_Pe_28 : Cond.fieldLink "ObservedBlocks$Pending" 28 (T_3 1).1 (T_3 1).2.1 (T_3 1).2.2.1 ∈ ob_T := List.mem_filter.mpr ⟨List.mem_of_getElem? (i := 154) (by decide +kernel), by decide +kernel⟩
theorem w_f_Pe_20 : Cond.fieldLink "ObservedBlocks$Pending" 20 (T_3 2).1 (T_3 2).2.1 (T_3 2).2.2.1 ∈ ob_T := List.mem_filter.mpr ⟨List.mem_of_getElem? (i := 155) (by decide +kernel), by decide +kernel⟩
theorem w_f_Pe_32 : Cond.fieldLink "ObservedBlocks$Pending" 32 (T_3 3).1 (T_3 3).2.1 (T_3 3).2.2.1 ∈ ob_T := List.mem_filter.mpr ⟨List.mem_of_getElem? (i := 156) (by decide +kernel), by decide +kernel⟩
theorem w_f_Pe_35 : Cond.fieldLink "ObservedBlocks$Pending" 35 (T_3 4).1 (T_3 4).2.1 (T_3 4).2.2.1 ∈ ob_T := List.mem_filter.mpr ⟨List.mem_of_getElem? (i := 157) (by decide +kernel), by decide +kernel⟩
theorem w_f_Pe_38 : Cond.fieldLink "ObservedBlocks$Pending" 38 (T_3 5).1 (T_3 5).2.1 (T_3 5).2.2.1 ∈ ob_T := List.mem_filter.mpr ⟨List.mem_of_getElem? (i := 158) (by decide +kernel), by decide +kernel⟩
theorem w_f_Sl_14 : Cond.fieldLink "ObservedBlocks$Slot" 14 (T_6 0).1 (T_6 0).2.1 (T_6 0).2.2.1 ∈ ob_T := List.mem_filter.mpr ⟨List.mem_of_getElem? (i := 172) (by decide +kernel), by decide +kernel⟩
theorem w_f_Cl_90 : Cond.fieldLink "ObservedBlocks$Client" 90 (T_6 0).1 (T_6 0).2.1 (T_6 0).2.2.1 ∈ ob_T := List.mem_filter.mpr ⟨List.mem_of_getElem? (i := 173) (by decide +kernel), by decide +kernel⟩
theorem w_f_Ob_71 : Cond.fieldLink "ObservedBlocks" 71 (T_6 0).1 (T_6 0).2.1 (T_6 0).2.2.1 ∈ ob_T := List.mem_filter.mpr ⟨List.mem_of_getElem? (i := 174) (by decide +kernel), by decide +kernel⟩
theorem w_f_Sl_23 : Cond.fieldLink "ObservedBlocks$Slot" 23 (T_6 1).1 (T_6 1).2.1 (T_6 1).2.2.1 ∈ ob_T := List.mem_filter.mpr ⟨List.mem_of_getElem? (i := 175) (by decide +kernel), by decide +kernel⟩
theorem w_f_Cl_101 : Cond.fieldLink "ObservedBlocks$Client" 101 (T_6 1).1 (T_6 1).2.1 (T_6 1).2.2.1 ∈ ob_T := List.mem_filter.mpr ⟨List.mem_of_getElem? (i := 176) (by decide +kernel), by decide +kernel⟩
theorem w_f_Sl_34 : Cond.fieldLink "ObservedBlocks$Slot" 34 (T_6 2).1 (T_6 2).2.1 (T_6 2).2.2.1 ∈ ob_T := List.mem_filter.mpr ⟨List.mem_of_getElem? (i := 177) (by decide +kernel), by decide +kernel⟩
theorem w_f_Ob_51 : Cond.fieldLink "ObservedBlocks" 51 (T_6 2).1 (T_6 2).2.1 (T_6 2).2.2.1 ∈ ob_T := List.mem_filter.mpr ⟨List.mem_of_getElem? (i := 178) (by decide +kernel), by decide +kernel⟩
theorem w_f_Cl_98 : Cond.fieldLink "ObservedBlocks$Client" 98 (T_6 2).1 (T_6 2).2.1 (T_6 2).2.2.1 ∈ ob_T := List.mem_filter.mpr ⟨List.mem_of_getElem? (i := 179) (by decide +kernel), by decide +kernel⟩
theorem w_f_Cl_39 : Cond.fieldLink "ObservedBlocks$Client" 39 (T_6 3).1 (T_6 3).2.1 (T_6 3).2.2.1 ∈ ob_T := List.mem_filter.mpr ⟨List.mem_of_getElem? (i := 180) (by decide +kernel), by decide +kernel⟩
theorem w_f_Sl_37 : Cond.fieldLink "ObservedBlocks$Slot" 37 (T_6 3).1 (T_6 3).2.1 (T_6 3).2.2.1 ∈ ob_T := List.mem_filter.mpr ⟨List.mem_of_getElem? (i := 181) (by decide +kernel), by decide +kernel⟩
theorem w_f_Ob_64 : Cond.fieldLink "ObservedBlocks" 64 (T_6 3).1 (T_6 3).2.1 (T_6 3).2.2.1 ∈ ob_T := List.mem_filter.mpr ⟨List.mem_of_getElem? (i := 182) (by decide +kernel), by decide +kernel⟩
theorem w_f_Sl_40 : Cond.fieldLink "ObservedBlocks$Slot" 40 (T_6 4).1 (T_6 4).2.1 (T_6 4).2.2.1 ∈ ob_T := List.mem_filter.mpr ⟨List.mem_of_getElem? (i := 183) (by decide +kernel), by decide +kernel⟩
theorem w_f_Cl_54 : Cond.fieldLink "ObservedBlocks$Client" 54 (T_6 4).1 (T_6 4).2.1 (T_6 4).2.2.1 ∈ ob_T := List.mem_filter.mpr ⟨List.mem_of_getElem? (i := 184) (by decide +kernel), by decide +kernel⟩
theorem w_f_Sl_43 : Cond.fieldLink "ObservedBlocks$Slot" 43 (T_6 5).1 (T_6 5).2.1 (T_6 5).2.2.1 ∈ ob_T := List.mem_filter.mpr ⟨List.mem_of_getElem? (i := 185) (by decide +kernel), by decide +kernel⟩
theorem w_f_Cl_73 : Cond.fieldLink "ObservedBlocks$Client" 73 (T_6 5).1 (T_6 5).2.1 (T_6 5).2.2.1 ∈ ob_T := List.mem_filter.mpr ⟨List.mem_of_getElem? (i := 186) (by decide +kernel), by decide +kernel⟩
theorem w_f_Sl_46 : Cond.fieldLink "ObservedBlocks$Slot" 46 (T_6 6).1 (T_6 6).2.1 (T_6 6).2.2.1 ∈ ob_T := List.mem_filter.mpr ⟨List.mem_of_getElem? (i := 187) (by decide +kernel), by decide +kernel⟩
theorem w_f_Cl_80 : Cond.fieldLink "ObservedBlocks$Client" 80 (T_6 6).1 (T_6 6).2.1 (T_6 6).2.2.1 ∈ ob_T := List.mem_filter.mpr ⟨List.mem_of_getElem? (i := 188) (by decide +kernel), by decide +kernel⟩
theorem w_f_Cl_35 : Cond.fieldLink "ObservedBlocks$Client" 35 (T_6 7).1 (T_6 7).2.1 (T_6 7).2.2.1 ∈ ob_T := List.mem_filter.mpr ⟨List.mem_of_getElem? (i := 189) (by decide +kernel), by decide +kernel⟩
theorem w_f_Sl_49 : Cond.fieldLink "ObservedBlocks$Slot" 49 (T_6 7).1 (T_6 7).2.1 (T_6 7).2.2.1 ∈ ob_T := List.mem_filter.mpr ⟨List.mem_of_getElem? (i := 190) (by decide +kernel), by decide +kernel⟩
theorem w_f_Sl_27 : Cond.fieldLink "ObservedBlocks$Slot" 27 (T_6 8).1 (T_6 8).2.1 (T_6 8).2.2.1 ∈ ob_T := List.mem_filter.mpr ⟨List.mem_of_getElem? (i := 191) (by decide +kernel), by decide +kernel⟩
theorem w_f_Sl_31 : Cond.fieldLink "ObservedBlocks$Slot" 31 (T_6 9).1 (T_6 9).2.1 (T_6 9).2.2.1 ∈ ob_T := List.mem_filter.mpr ⟨List.mem_of_getElem? (i := 192) (by decide +kernel), by decide +kernel⟩
theorem w_f_Sl_53 : Cond.fieldLink "ObservedBlocks$Slot" 53 (T_6 10).1 (T_6 10).2.1 (T_6 10).2.2.1 ∈ ob_T := List.mem_filter.mpr ⟨List.mem_of_getElem? (i := 193) (by decide +kernel), by decide +kernel⟩
theorem w_f_Sl_56 : Cond.fieldLink "ObservedBlocks$Slot" 56 (T_6 11).1 (T_6 11).2.1 (T_6 11).2.2.1 ∈ ob_T := List.mem_filter.mpr ⟨List.mem_of_getElem? (i := 194) (by decide +kernel), by decide +kernel⟩
theorem w_f_Sl_59 : Cond.fieldLink "ObservedBlocks$Slot" 59 (T_6 12).1 (T_6 12).2.1 (T_6 12).2.2.1 ∈ ob_T := List.mem_filter.mpr ⟨List.mem_of_getElem? (i := 195) (by decide +kernel), by decide +kernel⟩
theorem w_f_Sl_62 : Cond.fieldLink "ObservedBlocks$Slot" 62 (T_6 13).1 (T_6 13).2.1 (T_6 13).2.2.1 ∈ ob_T := List.mem_filter.mpr ⟨List.mem_of_getElem? (i := 196) (by decide +kernel), by decide +kernel⟩
theorem w_f_Wr_14 : Cond.fieldLink "ObservedBlocks$Writer" 14 (T_4 0).1 (T_4 0).2.1 (T_4 0).2.2.1 ∈ ob_T := List.mem_filter.mpr ⟨List.mem_of_getElem? (i := 234) (by decide +kernel), by decide +kernel⟩
theorem w_f_Cl_105 : Cond.fieldLink "ObservedBlocks$Client" 105 (T_4 0).1 (T_4 0).2.1 (T_4 0).2.2.1 ∈ ob_T := List.mem_filter.mpr ⟨List.mem_of_getElem? (i := 235) (by decide +kernel), by decide +kernel⟩
theorem w_f_Se_105 : Cond.fieldLink "ObservedBlocks$Server" 105 (T_4 0).1 (T_4 0).2.1 (T_4 0).2.2.1 ∈ ob_T := List.mem_filter.mpr ⟨List.mem_of_getElem? (i := 236) (by decide +kernel), by decide +kernel⟩
theorem w_f_Wr_20 : Cond.fieldLink "ObservedBlocks$Writer" 20 (T_4 1).1 (T_4 1).2.1 (T_4 1).2.2.1 ∈ ob_T := List.mem_filter.mpr ⟨List.mem_of_getElem? (i := 237) (by decide +kernel), by decide +kernel⟩
theorem w_f_Cl_11 : Cond.fieldLink "ObservedBlocks$Client" 11 (T_7 0).1 (T_7 0).2.1 (T_7 0).2.2.1 ∈ ob_T := List.mem_filter.mpr ⟨List.mem_of_getElem? (i := 243) (by decide +kernel), by decide +kernel⟩
theorem w_f_Ob_47 : Cond.fieldLink "ObservedBlocks" 47 (T_7 0).1 (T_7 0).2.1 (T_7 0).2.2.1 ∈ ob_T := List.mem_filter.mpr ⟨List.mem_of_getElem? (i := 244) (by decide +kernel), by decide +kernel⟩
theorem w_f_Cl_20 : Cond.fieldLink "ObservedBlocks$Client" 20 (T_7 1).1 (T_7 1).2.1 (T_7 1).2.2.1 ∈ ob_T := List.mem_filter.mpr ⟨List.mem_of_getElem? (i := 245) (by decide +kernel), by decide +kernel⟩
theorem w_f_Cl_27 : Cond.fieldLink "ObservedBlocks$Client" 27 (T_7 2).1 (T_7 2).2.1 (T_7 2).2.2.1 ∈ ob_T := List.mem_filter.mpr ⟨List.mem_of_getElem? (i := 246) (by decide +kernel), by decide +kernel⟩
theorem w_f_Cl_31 : Cond.fieldLink "ObservedBlocks$Client" 31 (T_7 3).1 (T_7 3).2.1 (T_7 3).2.2.1 ∈ ob_T := List.mem_filter.mpr ⟨List.mem_of_getElem? (i := 247) (by decide +kernel), by decide +kernel⟩
theorem w_f_Wa_10 : Cond.fieldLink "ObservedBlocks$Watcher" 10 (T_5 0).1 (T_5 0).2.1 (T_5 0).2.2.1 ∈ ob_T := List.mem_filter.mpr ⟨List.mem_of_getElem? (i := 274) (by decide +kernel), by decide +kernel⟩
theorem w_f_Se_190 : Cond.fieldLink "ObservedBlocks$Server" 190 (T_5 0).1 (T_5 0).2.1 (T_5 0).2.2.1 ∈ ob_T := List.mem_filter.mpr ⟨List.mem_of_getElem? (i := 275) (by decide +kernel), by decide +kernel⟩
theorem w_f_Wa_19 : Cond.fieldLink "ObservedBlocks$Watcher" 19 (T_5 1).1 (T_5 1).2.1 (T_5 1).2.2.1 ∈ ob_T := List.mem_filter.mpr ⟨List.mem_of_getElem? (i := 276) (by decide +kernel), by decide +kernel⟩
theorem w_f_Se_186 : Cond.fieldLink "ObservedBlocks$Server" 186 (T_5 1).1 (T_5 1).2.1 (T_5 1).2.2.1 ∈ ob_T := List.mem_filter.mpr ⟨List.mem_of_getElem? (i := 277) (by decide +kernel), by decide +kernel⟩
theorem w_f_Wa_23 : Cond.fieldLink "ObservedBlocks$Watcher" 23 (T_5 2).1 (T_5 2).2.1 (T_5 2).2.2.1 ∈ ob_T := List.mem_filter.mpr ⟨List.mem_of_getElem? (i := 278) (by decide +kernel), by decide +kernel⟩
theorem w_f_Se_199 : Cond.fieldLink "ObservedBlocks$Server" 199 (T_5 2).1 (T_5 2).2.1 (T_5 2).2.2.1 ∈ ob_T := List.mem_filter.mpr ⟨List.mem_of_getElem? (i := 279) (by decide +kernel), by decide +kernel⟩
theorem w_f_Wa_26 : Cond.fieldLink "ObservedBlocks$Watcher" 26 (T_5 3).1 (T_5 3).2.1 (T_5 3).2.2.1 ∈ ob_T := List.mem_filter.mpr ⟨List.mem_of_getElem? (i := 280) (by decide +kernel), by decide +kernel⟩
theorem w_f_Se_214 : Cond.fieldLink "ObservedBlocks$Server" 214 (T_5 3).1 (T_5 3).2.1 (T_5 3).2.2.1 ∈ ob_T := List.mem_filter.mpr ⟨List.mem_of_getElem? (i := 281) (by decide +kernel), by decide +kernel⟩
theorem w_f_Wa_29 : Cond.fieldLink "ObservedBlocks$Watcher" 29 (T_5 4).1 (T_5 4).2.1 (T_5 4).2.2.1 ∈ ob_T := List.mem_filter.mpr ⟨List.mem_of_getElem? (i := 282) (by decide +kernel), by decide +kernel⟩
theorem w_f_Se_210 : Cond.fieldLink "ObservedBlocks$Server" 210 (T_5 4).1 (T_5 4).2.1 (T_5 4).2.2.1 ∈ ob_T := List.mem_filter.mpr ⟨List.mem_of_getElem? (i := 283) (by decide +kernel), by decide +kernel⟩
theorem w_f_Me_11 : Cond.fieldLink "ObservedBlocks$Memory" 11 (T_2 0).1 (T_2 0).2.1 (T_2 0).2.2.1 ∈ ob_T := List.mem_filter.mpr ⟨List.mem_of_getElem? (i := 303) (by decide +kernel), by decide +kernel⟩
theorem w_f_Se_64 : Cond.fieldLink "ObservedBlocks$Server" 64 (T_2 0).1 (T_2 0).2.1 (T_2 0).2.2.1 ∈ ob_T := List.mem_filter.mpr ⟨List.mem_of_getElem? (i := 304) (by decide +kernel), by decide +kernel⟩
theorem w_f_Me_17 : Cond.fieldLink "ObservedBlocks$Memory" 17 (T_2 1).1 (T_2 1).2.1 (T_2 1).2.2.1 ∈ ob_T := List.mem_filter.mpr ⟨List.mem_of_getElem? (i := 305) (by decide +kernel), by decide +kernel⟩
theorem w_f_Me_21 : Cond.fieldLink "ObservedBlocks$Memory" 21 (T_2 2).1 (T_2 2).2.1 (T_2 2).2.2.1 ∈ ob_T := List.mem_filter.mpr ⟨List.mem_of_getElem? (i := 306) (by decide +kernel), by decide +kernel⟩
theorem w_f_Me_27 : Cond.fieldLink "ObservedBlocks$Memory" 27 (T_2 3).1 (T_2 3).2.1 (T_2 3).2.2.1 ∈ ob_T := List.mem_filter.mpr ⟨List.mem_of_getElem? (i := 307) (by decide +kernel), by decide +kernel⟩
theorem w_f_Se_11 : Cond.fieldLink "ObservedBlocks$Server" 11 (T_9 0).1 (T_9 0).2.1 (T_9 0).2.2.1 ∈ ob_T := List.mem_filter.mpr ⟨List.mem_of_getElem? (i := 319) (by decide +kernel), by decide +kernel⟩
theorem w_f_Ob_84 : Cond.fieldLink "ObservedBlocks" 84 (T_9 0).1 (T_9 0).2.1 (T_9 0).2.2.1 ∈ ob_T := List.mem_filter.mpr ⟨List.mem_of_getElem? (i := 320) (by decide +kernel), by decide +kernel⟩
theorem w_f_Se_73 : Cond.fieldLink "ObservedBlocks$Server" 73 (T_9 1).1 (T_9 1).2.1 (T_9 1).2.2.1 ∈ ob_T := List.mem_filter.mpr ⟨List.mem_of_getElem? (i := 321) (by decide +kernel), by decide +kernel⟩
theorem w_f_Ob_150 : Cond.fieldLink "ObservedBlocks" 150 (T_9 1).1 (T_9 1).2.1 (T_9 1).2.2.1 ∈ ob_T := List.mem_filter.mpr ⟨List.mem_of_getElem? (i := 322) (by decide +kernel), by decide +kernel⟩
theorem w_f_Se_183 : Cond.fieldLink "ObservedBlocks$Server" 183 (T_9 2).1 (T_9 2).2.1 (T_9 2).2.2.1 ∈ ob_T := List.mem_filter.mpr ⟨List.mem_of_getElem? (i := 323) (by decide +kernel), by decide +kernel⟩
theorem w_f_Ob_153 : Cond.fieldLink "ObservedBlocks" 153 (T_9 2).1 (T_9 2).2.1 (T_9 2).2.2.1 ∈ ob_T := List.mem_filter.mpr ⟨List.mem_of_getElem? (i := 324) (by decide +kernel), by decide +kernel⟩
theorem w_f_Se_160 : Cond.fieldLink "ObservedBlocks$Server" 160 (T_9 3).1 (T_9 3).2.1 (T_9 3).2.2.1 ∈ ob_T := List.mem_filter.mpr ⟨List.mem_of_getElem? (i := 325) (by decide +kernel), by decide +kernel⟩
theorem w_f_Ob_156 : Cond.fieldLink "ObservedBlocks" 156 (T_9 3).1 (T_9 3).2.1 (T_9 3).2.2.1 ∈ ob_T := List.mem_filter.mpr ⟨List.mem_of_getElem? (i := 326) (by decide +kernel), by decide +kernel⟩
theorem w_f_Se_17 : Cond.fieldLink "ObservedBlocks$Server" 17 (T_9 4).1 (T_9 4).2.1 (T_9 4).2.2.1 ∈ ob_T := List.mem_filter.mpr ⟨List.mem_of_getElem? (i := 327) (by decide +kernel), by decide +kernel⟩
theorem w_f_Se_25 : Cond.fieldLink "ObservedBlocks$Server" 25 (T_9 5).1 (T_9 5).2.1 (T_9 5).2.2.1 ∈ ob_T := List.mem_filter.mpr ⟨List.mem_of_getElem? (i := 328) (by decide +kernel), by decide +kernel⟩
theorem w_f_Se_33 : Cond.fieldLink "ObservedBlocks$Server" 33 (T_9 6).1 (T_9 6).2.1 (T_9 6).2.2.1 ∈ ob_T := List.mem_filter.mpr ⟨List.mem_of_getElem? (i := 329) (by decide +kernel), by decide +kernel⟩
theorem w_f_Se_37 : Cond.fieldLink "ObservedBlocks$Server" 37 (T_9 7).1 (T_9 7).2.1 (T_9 7).2.2.1 ∈ ob_T := List.mem_filter.mpr ⟨List.mem_of_getElem? (i := 330) (by decide +kernel), by decide +kernel⟩
theorem w_f_Se_44 : Cond.fieldLink "ObservedBlocks$Server" 44 (T_9 8).1 (T_9 8).2.1 (T_9 8).2.2.1 ∈ ob_T := List.mem_filter.mpr ⟨List.mem_of_getElem? (i := 331) (by decide +kernel), by decide +kernel⟩
theorem w_f_Se_48 : Cond.fieldLink "ObservedBlocks$Server" 48 (T_9 9).1 (T_9 9).2.1 (T_9 9).2.2.1 ∈ ob_T := List.mem_filter.mpr ⟨List.mem_of_getElem? (i := 332) (by decide +kernel), by decide +kernel⟩
theorem w_f_Ms_26 : Cond.fieldLink "ObservedBlocks$Message" 26 (T_8 0).1 (T_8 0).2.1 (T_8 0).2.2.1 ∈ ob_T := List.mem_filter.mpr ⟨List.mem_of_getElem? (i := 362) (by decide +kernel), by decide +kernel⟩
theorem w_f_Cl_123 : Cond.fieldLink "ObservedBlocks$Client" 123 (T_8 0).1 (T_8 0).2.1 (T_8 0).2.2.1 ∈ ob_T := List.mem_filter.mpr ⟨List.mem_of_getElem? (i := 363) (by decide +kernel), by decide +kernel⟩
theorem w_f_Se_221 : Cond.fieldLink "ObservedBlocks$Server" 221 (T_8 0).1 (T_8 0).2.1 (T_8 0).2.2.1 ∈ ob_T := List.mem_filter.mpr ⟨List.mem_of_getElem? (i := 364) (by decide +kernel), by decide +kernel⟩
theorem w_f_Ms_30 : Cond.fieldLink "ObservedBlocks$Message" 30 (T_8 1).1 (T_8 1).2.1 (T_8 1).2.2.1 ∈ ob_T := List.mem_filter.mpr ⟨List.mem_of_getElem? (i := 365) (by decide +kernel), by decide +kernel⟩
theorem w_f_Cl_132 : Cond.fieldLink "ObservedBlocks$Client" 132 (T_8 1).1 (T_8 1).2.1 (T_8 1).2.2.1 ∈ ob_T := List.mem_filter.mpr ⟨List.mem_of_getElem? (i := 366) (by decide +kernel), by decide +kernel⟩
theorem w_f_Se_117 : Cond.fieldLink "ObservedBlocks$Server" 117 (T_8 1).1 (T_8 1).2.1 (T_8 1).2.2.1 ∈ ob_T := List.mem_filter.mpr ⟨List.mem_of_getElem? (i := 367) (by decide +kernel), by decide +kernel⟩
theorem w_f_Sl_88 : Cond.fieldLink "ObservedBlocks$Slot" 88 (T_8 1).1 (T_8 1).2.1 (T_8 1).2.2.1 ∈ ob_T := List.mem_filter.mpr ⟨List.mem_of_getElem? (i := 368) (by decide +kernel), by decide +kernel⟩
theorem w_f_Se_55 : Cond.fieldLink "ObservedBlocks$Server" 55 (T_8 2).1 (T_8 2).2.1 (T_8 2).2.2.1 ∈ ob_T := List.mem_filter.mpr ⟨List.mem_of_getElem? (i := 369) (by decide +kernel), by decide +kernel⟩
theorem w_f_Sl_71 : Cond.fieldLink "ObservedBlocks$Slot" 71 (T_8 2).1 (T_8 2).2.1 (T_8 2).2.2.1 ∈ ob_T := List.mem_filter.mpr ⟨List.mem_of_getElem? (i := 370) (by decide +kernel), by decide +kernel⟩
theorem w_f_Ms_63 : Cond.fieldLink "ObservedBlocks$Message" 63 (T_8 2).1 (T_8 2).2.1 (T_8 2).2.2.1 ∈ ob_T := List.mem_filter.mpr ⟨List.mem_of_getElem? (i := 371) (by decide +kernel), by decide +kernel⟩
theorem w_f_Cl_152 : Cond.fieldLink "ObservedBlocks$Client" 152 (T_8 2).1 (T_8 2).2.1 (T_8 2).2.2.1 ∈ ob_T := List.mem_filter.mpr ⟨List.mem_of_getElem? (i := 372) (by decide +kernel), by decide +kernel⟩
theorem w_f_Se_87 : Cond.fieldLink "ObservedBlocks$Server" 87 (T_8 3).1 (T_8 3).2.1 (T_8 3).2.2.1 ∈ ob_T := List.mem_filter.mpr ⟨List.mem_of_getElem? (i := 373) (by decide +kernel), by decide +kernel⟩
theorem w_f_Sl_80 : Cond.fieldLink "ObservedBlocks$Slot" 80 (T_8 3).1 (T_8 3).2.1 (T_8 3).2.2.1 ∈ ob_T := List.mem_filter.mpr ⟨List.mem_of_getElem? (i := 374) (by decide +kernel), by decide +kernel⟩
theorem w_f_Ms_66 : Cond.fieldLink "ObservedBlocks$Message" 66 (T_8 3).1 (T_8 3).2.1 (T_8 3).2.2.1 ∈ ob_T := List.mem_filter.mpr ⟨List.mem_of_getElem? (i := 375) (by decide +kernel), by decide +kernel⟩
theorem w_f_Ms_79 : Cond.fieldLink "ObservedBlocks$Message" 79 (T_8 4).1 (T_8 4).2.1 (T_8 4).2.2.1 ∈ ob_T := List.mem_filter.mpr ⟨List.mem_of_getElem? (i := 376) (by decide +kernel), by decide +kernel⟩
theorem w_f_Se_153 : Cond.fieldLink "ObservedBlocks$Server" 153 (T_8 4).1 (T_8 4).2.1 (T_8 4).2.2.1 ∈ ob_T := List.mem_filter.mpr ⟨List.mem_of_getElem? (i := 377) (by decide +kernel), by decide +kernel⟩
theorem w_f_Sl_121 : Cond.fieldLink "ObservedBlocks$Slot" 121 (T_8 4).1 (T_8 4).2.1 (T_8 4).2.2.1 ∈ ob_T := List.mem_filter.mpr ⟨List.mem_of_getElem? (i := 378) (by decide +kernel), by decide +kernel⟩
theorem w_f_Ms_82 : Cond.fieldLink "ObservedBlocks$Message" 82 (T_8 5).1 (T_8 5).2.1 (T_8 5).2.2.1 ∈ ob_T := List.mem_filter.mpr ⟨List.mem_of_getElem? (i := 379) (by decide +kernel), by decide +kernel⟩
theorem w_f_Se_120 : Cond.fieldLink "ObservedBlocks$Server" 120 (T_8 5).1 (T_8 5).2.1 (T_8 5).2.2.1 ∈ ob_T := List.mem_filter.mpr ⟨List.mem_of_getElem? (i := 380) (by decide +kernel), by decide +kernel⟩
theorem w_f_Sl_102 : Cond.fieldLink "ObservedBlocks$Slot" 102 (T_8 5).1 (T_8 5).2.1 (T_8 5).2.2.1 ∈ ob_T := List.mem_filter.mpr ⟨List.mem_of_getElem? (i := 381) (by decide +kernel), by decide +kernel⟩
theorem w_f_Se_98 : Cond.fieldLink "ObservedBlocks$Server" 98 (T_8 6).1 (T_8 6).2.1 (T_8 6).2.2.1 ∈ ob_T := List.mem_filter.mpr ⟨List.mem_of_getElem? (i := 382) (by decide +kernel), by decide +kernel⟩
theorem w_f_Ms_85 : Cond.fieldLink "ObservedBlocks$Message" 85 (T_8 6).1 (T_8 6).2.1 (T_8 6).2.2.1 ∈ ob_T := List.mem_filter.mpr ⟨List.mem_of_getElem? (i := 383) (by decide +kernel), by decide +kernel⟩
theorem w_f_Ms_43 : Cond.fieldLink "ObservedBlocks$Message" 43 (T_8 7).1 (T_8 7).2.1 (T_8 7).2.2.1 ∈ ob_T := List.mem_filter.mpr ⟨List.mem_of_getElem? (i := 384) (by decide +kernel), by decide +kernel⟩
theorem w_f_Ms_14 : Cond.fieldLink "ObservedBlocks$Message" 14 (T_8 8).1 (T_8 8).2.1 (T_8 8).2.2.1 ∈ ob_T := List.mem_filter.mpr ⟨List.mem_of_getElem? (i := 385) (by decide +kernel), by decide +kernel⟩
theorem w_f_Ms_20 : Cond.fieldLink "ObservedBlocks$Message" 20 (T_8 9).1 (T_8 9).2.1 (T_8 9).2.2.1 ∈ ob_T := List.mem_filter.mpr ⟨List.mem_of_getElem? (i := 386) (by decide +kernel), by decide +kernel⟩
theorem w_f_Ms_23 : Cond.fieldLink "ObservedBlocks$Message" 23 (T_8 10).1 (T_8 10).2.1 (T_8 10).2.2.1 ∈ ob_T := List.mem_filter.mpr ⟨List.mem_of_getElem? (i := 387) (by decide +kernel), by decide +kernel⟩
theorem w_f_Se_139 : Cond.fieldLink "ObservedBlocks$Server" 139 (T_8 10).1 (T_8 10).2.1 (T_8 10).2.2.1 ∈ ob_T := List.mem_filter.mpr ⟨List.mem_of_getElem? (i := 388) (by decide +kernel), by decide +kernel⟩
theorem w_f_Sl_111 : Cond.fieldLink "ObservedBlocks$Slot" 111 (T_8 10).1 (T_8 10).2.1 (T_8 10).2.2.1 ∈ ob_T := List.mem_filter.mpr ⟨List.mem_of_getElem? (i := 389) (by decide +kernel), by decide +kernel⟩
theorem w_f_Ms_69 : Cond.fieldLink "ObservedBlocks$Message" 69 (T_8 11).1 (T_8 11).2.1 (T_8 11).2.2.1 ∈ ob_T := List.mem_filter.mpr ⟨List.mem_of_getElem? (i := 390) (by decide +kernel), by decide +kernel⟩
theorem w_f_Ms_91 : Cond.fieldLink "ObservedBlocks$Message" 91 (T_8 12).1 (T_8 12).2.1 (T_8 12).2.2.1 ∈ ob_T := List.mem_filter.mpr ⟨List.mem_of_getElem? (i := 391) (by decide +kernel), by decide +kernel⟩
theorem w_f_Ms_110 : Cond.fieldLink "ObservedBlocks$Message" 110 (T_8 13).1 (T_8 13).2.1 (T_8 13).2.2.1 ∈ ob_T := List.mem_filter.mpr ⟨List.mem_of_getElem? (i := 392) (by decide +kernel), by decide +kernel⟩
theorem w_f_Ms_107 : Cond.fieldLink "ObservedBlocks$Message" 107 (T_8 14).1 (T_8 14).2.1 (T_8 14).2.2.1 ∈ ob_T := List.mem_filter.mpr ⟨List.mem_of_getElem? (i := 393) (by decide +kernel), by decide +kernel⟩
theorem w_f_Ob_10 : Cond.fieldLink "ObservedBlocks" 10 (T_10 0).1 (T_10 0).2.1 (T_10 0).2.2.1 ∈ ob_T := List.mem_filter.mpr ⟨List.mem_of_getElem? (i := 425) (by decide +kernel), by decide +kernel⟩
theorem w_f_Ob_21 : Cond.fieldLink "ObservedBlocks" 21 (T_10 1).1 (T_10 1).2.1 (T_10 1).2.2.1 ∈ ob_T := List.mem_filter.mpr ⟨List.mem_of_getElem? (i := 426) (by decide +kernel), by decide +kernel⟩
theorem w_f_Ob_28 : Cond.fieldLink "ObservedBlocks" 28 (T_10 2).1 (T_10 2).2.1 (T_10 2).2.2.1 ∈ ob_T := List.mem_filter.mpr ⟨List.mem_of_getElem? (i := 427) (by decide +kernel), by decide +kernel⟩
theorem w_f_Ob_35 : Cond.fieldLink "ObservedBlocks" 35 (T_10 3).1 (T_10 3).2.1 (T_10 3).2.2.1 ∈ ob_T := List.mem_filter.mpr ⟨List.mem_of_getElem? (i := 428) (by decide +kernel), by decide +kernel⟩
theorem w_f_Ob_39 : Cond.fieldLink "ObservedBlocks" 39 (T_10 4).1 (T_10 4).2.1 (T_10 4).2.2.1 ∈ ob_T := List.mem_filter.mpr ⟨List.mem_of_getElem? (i := 429) (by decide +kernel), by decide +kernel⟩
theorem w_f_Mo_7 : Cond.fieldLink "ObservedBlocksModel" 7 (T_11 0).1 (T_11 0).2.1 (T_11 0).2.2.1 ∈ ob_T := List.mem_filter.mpr ⟨List.mem_of_getElem? (i := 935) (by decide +kernel), by decide +kernel⟩
theorem w_f_Mo_13 : Cond.fieldLink "ObservedBlocksModel" 13 (T_11 1).1 (T_11 1).2.1 (T_11 1).2.2.1 ∈ ob_T := List.mem_filter.mpr ⟨List.mem_of_getElem? (i := 936) (by decide +kernel), by decide +kernel⟩
theorem w_f_Mo_16 : Cond.fieldLink "ObservedBlocksModel" 16 (T_11 2).1 (T_11 2).2.1 (T_11 2).2.2.1 ∈ ob_T := List.mem_filter.mpr ⟨List.mem_of_getElem? (i := 937) (by decide +kernel), by decide +kernel⟩
theorem w_f_Mo_156 : Cond.fieldLink "ObservedBlocksModel" 156 (T_11 3).1 (T_11 3).2.1 (T_11 3).2.2.1 ∈ ob_T := List.mem_filter.mpr ⟨List.mem_of_getElem? (i := 938) (by decide +kernel), by decide +kernel⟩
theorem w_f_Mo_275 : Cond.fieldLink "ObservedBlocksModel" 275 (T_11 4).1 (T_11 4).2.1 (T_11 4).2.2.1 ∈ ob_T := List.mem_filter.mpr ⟨List.mem_of_getElem? (i := 939) (by decide +kernel), by decide +kernel⟩
theorem w_f_Mo_19 : Cond.fieldLink "ObservedBlocksModel" 19 (T_11 5).1 (T_11 5).2.1 (T_11 5).2.2.1 ∈ ob_T := List.mem_filter.mpr ⟨List.mem_of_getElem? (i := 940) (by decide +kernel), by decide +kernel⟩
theorem w_f_Mo_23 : Cond.fieldLink "ObservedBlocksModel" 23 (T_11 6).1 (T_11 6).2.1 (T_11 6).2.2.1 ∈ ob_T := List.mem_filter.mpr ⟨List.mem_of_getElem? (i := 941) (by decide +kernel), by decide +kernel⟩
theorem w_f_Mo_26 : Cond.fieldLink "ObservedBlocksModel" 26 (T_11 7).1 (T_11 7).2.1 (T_11 7).2.2.1 ∈ ob_T := List.mem_filter.mpr ⟨List.mem_of_getElem? (i := 942) (by decide +kernel), by decide +kernel⟩
theorem w_f_Mo_30 : Cond.fieldLink "ObservedBlocksModel" 30 (T_11 8).1 (T_11 8).2.1 (T_11 8).2.2.1 ∈ ob_T := List.mem_filter.mpr ⟨List.mem_of_getElem? (i := 943) (by decide +kernel), by decide +kernel⟩
theorem w_f_Mo_33 : Cond.fieldLink "ObservedBlocksModel" 33 (T_11 9).1 (T_11 9).2.1 (T_11 9).2.2.1 ∈ ob_T := List.mem_filter.mpr ⟨List.mem_of_getElem? (i := 944) (by decide +kernel), by decide +kernel⟩
theorem w_f_Mo_36 : Cond.fieldLink "ObservedBlocksModel" 36 (T_11 10).1 (T_11 10).2.1 (T_11 10).2.2.1 ∈ ob_T := List.mem_filter.mpr ⟨List.mem_of_getElem? (i := 945) (by decide +kernel), by decide +kernel⟩
theorem w_f_Mo_39 : Cond.fieldLink "ObservedBlocksModel" 39 (T_11 11).1 (T_11 11).2.1 (T_11 11).2.2.1 ∈ ob_T := List.mem_filter.mpr ⟨List.mem_of_getElem? (i := 946) (by decide +kernel), by decide +kernel⟩
theorem w_f_Mo_42 : Cond.fieldLink "ObservedBlocksModel" 42 (T_11 12).1 (T_11 12).2.1 (T_11 12).2.2.1 ∈ ob_T := List.mem_filter.mpr ⟨List.mem_of_getElem? (i := 947) (by decide +kernel), by decide +kernel⟩
theorem w_f_Mo_45 : Cond.fieldLink "ObservedBlocksModel" 45 (T_11 13).1 (T_11 13).2.1 (T_11 13).2.2.1 ∈ ob_T := List.mem_filter.mpr ⟨List.mem_of_getElem? (i := 948) (by decide +kernel), by decide +kernel⟩
theorem w_f_Mo_48 : Cond.fieldLink "ObservedBlocksModel" 48 (T_11 14).1 (T_11 14).2.1 (T_11 14).2.2.1 ∈ ob_T := List.mem_filter.mpr ⟨List.mem_of_getElem? (i := 949) (by decide +kernel), by decide +kernel⟩
theorem w_f_Mo_51 : Cond.fieldLink "ObservedBlocksModel" 51 (T_11 15).1 (T_11 15).2.1 (T_11 15).2.2.1 ∈ ob_T := List.mem_filter.mpr ⟨List.mem_of_getElem? (i := 950) (by decide +kernel), by decide +kernel⟩
theorem w_f_Mo_54 : Cond.fieldLink "ObservedBlocksModel" 54 (T_11 16).1 (T_11 16).2.1 (T_11 16).2.2.1 ∈ ob_T := List.mem_filter.mpr ⟨List.mem_of_getElem? (i := 951) (by decide +kernel), by decide +kernel⟩
theorem w_f_Mo_57 : Cond.fieldLink "ObservedBlocksModel" 57 (T_11 17).1 (T_11 17).2.1 (T_11 17).2.2.1 ∈ ob_T := List.mem_filter.mpr ⟨List.mem_of_getElem? (i := 952) (by decide +kernel), by decide +kernel⟩
theorem w_f_Mo_60 : Cond.fieldLink "ObservedBlocksModel" 60 (T_11 18).1 (T_11 18).2.1 (T_11 18).2.2.1 ∈ ob_T := List.mem_filter.mpr ⟨List.mem_of_getElem? (i := 953) (by decide +kernel), by decide +kernel⟩
theorem w_f_Mo_63 : Cond.fieldLink "ObservedBlocksModel" 63 (T_11 19).1 (T_11 19).2.1 (T_11 19).2.2.1 ∈ ob_T := List.mem_filter.mpr ⟨List.mem_of_getElem? (i := 954) (by decide +kernel), by decide +kernel⟩
theorem w_f_Mo_66 : Cond.fieldLink "ObservedBlocksModel" 66 (T_11 20).1 (T_11 20).2.1 (T_11 20).2.2.1 ∈ ob_T := List.mem_filter.mpr ⟨List.mem_of_getElem? (i := 955) (by decide +kernel), by decide +kernel⟩
theorem w_f_Mo_69 : Cond.fieldLink "ObservedBlocksModel" 69 (T_11 21).1 (T_11 21).2.1 (T_11 21).2.2.1 ∈ ob_T := List.mem_filter.mpr ⟨List.mem_of_getElem? (i := 956) (by decide +kernel), by decide +kernel⟩
theorem w_f_Mo_72 : Cond.fieldLink "ObservedBlocksModel" 72 (T_11 22).1 (T_11 22).2.1 (T_11 22).2.2.1 ∈ ob_T := List.mem_filter.mpr ⟨List.mem_of_getElem? (i := 957) (by decide +kernel), by decide +kernel⟩
theorem w_f_Mo_75 : Cond.fieldLink "ObservedBlocksModel" 75 (T_11 23).1 (T_11 23).2.1 (T_11 23).2.2.1 ∈ ob_T := List.mem_filter.mpr ⟨List.mem_of_getElem? (i := 958) (by decide +kernel), by decide +kernel⟩
theorem w_f_Mo_78 : Cond.fieldLink "ObservedBlocksModel" 78 (T_11 24).1 (T_11 24).2.1 (T_11 24).2.2.1 ∈ ob_T := List.mem_filter.mpr ⟨List.mem_of_getElem? (i := 959) (by decide +kernel), by decide +kernel⟩
theorem w_f_Mo_81 : Cond.fieldLink "ObservedBlocksModel" 81 (T_11 25).1 (T_11 25).2.1 (T_11 25).2.2.1 ∈ ob_T := List.mem_filter.mpr ⟨List.mem_of_getElem? (i := 960) (by decide +kernel), by decide +kernel⟩
theorem w_f_Mo_84 : Cond.fieldLink "ObservedBlocksModel" 84 (T_11 26).1 (T_11 26).2.1 (T_11 26).2.2.1 ∈ ob_T := List.mem_filter.mpr ⟨List.mem_of_getElem? (i := 961) (by decide +kernel), by decide +kernel⟩
theorem w_f_Mo_87 : Cond.fieldLink "ObservedBlocksModel" 87 (T_11 27).1 (T_11 27).2.1 (T_11 27).2.2.1 ∈ ob_T := List.mem_filter.mpr ⟨List.mem_of_getElem? (i := 962) (by decide +kernel), by decide +kernel⟩
theorem w_f_Mo_90 : Cond.fieldLink "ObservedBlocksModel" 90 (T_11 28).1 (T_11 28).2.1 (T_11 28).2.2.1 ∈ ob_T := List.mem_filter.mpr ⟨List.mem_of_getElem? (i := 963) (by decide +kernel), by decide +kernel⟩
theorem w_f_Mo_93 : Cond.fieldLink "ObservedBlocksModel" 93 (T_11 29).1 (T_11 29).2.1 (T_11 29).2.2.1 ∈ ob_T := List.mem_filter.mpr ⟨List.mem_of_getElem? (i := 964) (by decide +kernel), by decide +kernel⟩
theorem w_f_Mo_96 : Cond.fieldLink "ObservedBlocksModel" 96 (T_11 30).1 (T_11 30).2.1 (T_11 30).2.2.1 ∈ ob_T := List.mem_filter.mpr ⟨List.mem_of_getElem? (i := 965) (by decide +kernel), by decide +kernel⟩
theorem w_f_Mo_99 : Cond.fieldLink "ObservedBlocksModel" 99 (T_11 31).1 (T_11 31).2.1 (T_11 31).2.2.1 ∈ ob_T := List.mem_filter.mpr ⟨List.mem_of_getElem? (i := 966) (by decide +kernel), by decide +kernel⟩
theorem w_f_Mo_242 : Cond.fieldLink "ObservedBlocksModel" 242 (T_11 32).1 (T_11 32).2.1 (T_11 32).2.2.1 ∈ ob_T := List.mem_filter.mpr ⟨List.mem_of_getElem? (i := 967) (by decide +kernel), by decide +kernel⟩
theorem w_f_Mo_102 : Cond.fieldLink "ObservedBlocksModel" 102 (T_11 33).1 (T_11 33).2.1 (T_11 33).2.2.1 ∈ ob_T := List.mem_filter.mpr ⟨List.mem_of_getElem? (i := 968) (by decide +kernel), by decide +kernel⟩
theorem w_f_Mo_105 : Cond.fieldLink "ObservedBlocksModel" 105 (T_11 34).1 (T_11 34).2.1 (T_11 34).2.2.1 ∈ ob_T := List.mem_filter.mpr ⟨List.mem_of_getElem? (i := 969) (by decide +kernel), by decide +kernel⟩
theorem w_f_Mo_108 : Cond.fieldLink "ObservedBlocksModel" 108 (T_11 35).1 (T_11 35).2.1 (T_11 35).2.2.1 ∈ ob_T := List.mem_filter.mpr ⟨List.mem_of_getElem? (i := 970) (by decide +kernel), by decide +kernel⟩
theorem w_f_Mo_111 : Cond.fieldLink "ObservedBlocksModel" 111 (T_11 36).1 (T_11 36).2.1 (T_11 36).2.2.1 ∈ ob_T := List.mem_filter.mpr ⟨List.mem_of_getElem? (i := 971) (by decide +kernel), by decide +kernel⟩
theorem w_f_Mo_245 : Cond.fieldLink "ObservedBlocksModel" 245 (T_11 37).1 (T_11 37).2.1 (T_11 37).2.2.1 ∈ ob_T := List.mem_filter.mpr ⟨List.mem_of_getElem? (i := 972) (by decide +kernel), by decide +kernel⟩
theorem w_f_Mo_278 : Cond.fieldLink "ObservedBlocksModel" 278 (T_11 38).1 (T_11 38).2.1 (T_11 38).2.2.1 ∈ ob_T := List.mem_filter.mpr ⟨List.mem_of_getElem? (i := 973) (by decide +kernel), by decide +kernel⟩
theorem w_f_Mo_266 : Cond.fieldLink "ObservedBlocksModel" 266 (T_11 39).1 (T_11 39).2.1 (T_11 39).2.2.1 ∈ ob_T := List.mem_filter.mpr ⟨List.mem_of_getElem? (i := 974) (by decide +kernel), by decide +kernel⟩
theorem w_f_Mo_114 : Cond.fieldLink "ObservedBlocksModel" 114 (T_11 40).1 (T_11 40).2.1 (T_11 40).2.2.1 ∈ ob_T := List.mem_filter.mpr ⟨List.mem_of_getElem? (i := 975) (by decide +kernel), by decide +kernel⟩
theorem w_f_Mo_117 : Cond.fieldLink "ObservedBlocksModel" 117 (T_11 41).1 (T_11 41).2.1 (T_11 41).2.2.1 ∈ ob_T := List.mem_filter.mpr ⟨List.mem_of_getElem? (i := 976) (by decide +kernel), by decide +kernel⟩
theorem w_f_Mo_120 : Cond.fieldLink "ObservedBlocksModel" 120 (T_11 42).1 (T_11 42).2.1 (T_11 42).2.2.1 ∈ ob_T := List.mem_filter.mpr ⟨List.mem_of_getElem? (i := 977) (by decide +kernel), by decide +kernel⟩
theorem w_f_Mo_123 : Cond.fieldLink "ObservedBlocksModel" 123 (T_11 43).1 (T_11 43).2.1 (T_11 43).2.2.1 ∈ ob_T := List.mem_filter.mpr ⟨List.mem_of_getElem? (i := 978) (by decide +kernel), by decide +kernel⟩
theorem w_f_Mo_126 : Cond.fieldLink "ObservedBlocksModel" 126 (T_11 44).1 (T_11 44).2.1 (T_11 44).2.2.1 ∈ ob_T := List.mem_filter.mpr ⟨List.mem_of_getElem? (i := 979) (by decide +kernel), by decide +kernel⟩
theorem w_f_Mo_138 : Cond.fieldLink "ObservedBlocksModel" 138 (T_11 45).1 (T_11 45).2.1 (T_11 45).2.2.1 ∈ ob_T := List.mem_filter.mpr ⟨List.mem_of_getElem? (i := 980) (by decide +kernel), by decide +kernel⟩
theorem w_f_Mo_141 : Cond.fieldLink "ObservedBlocksModel" 141 (T_11 46).1 (T_11 46).2.1 (T_11 46).2.2.1 ∈ ob_T := List.mem_filter.mpr ⟨List.mem_of_getElem? (i := 981) (by decide +kernel), by decide +kernel⟩
theorem w_f_Mo_129 : Cond.fieldLink "ObservedBlocksModel" 129 (T_11 47).1 (T_11 47).2.1 (T_11 47).2.2.1 ∈ ob_T := List.mem_filter.mpr ⟨List.mem_of_getElem? (i := 982) (by decide +kernel), by decide +kernel⟩
theorem w_f_Mo_175 : Cond.fieldLink "ObservedBlocksModel" 175 (T_11 48).1 (T_11 48).2.1 (T_11 48).2.2.1 ∈ ob_T := List.mem_filter.mpr ⟨List.mem_of_getElem? (i := 983) (by decide +kernel), by decide +kernel⟩
theorem w_f_Mo_191 : Cond.fieldLink "ObservedBlocksModel" 191 (T_11 49).1 (T_11 49).2.1 (T_11 49).2.2.1 ∈ ob_T := List.mem_filter.mpr ⟨List.mem_of_getElem? (i := 984) (by decide +kernel), by decide +kernel⟩
theorem w_f_Mo_194 : Cond.fieldLink "ObservedBlocksModel" 194 (T_11 50).1 (T_11 50).2.1 (T_11 50).2.2.1 ∈ ob_T := List.mem_filter.mpr ⟨List.mem_of_getElem? (i := 985) (by decide +kernel), by decide +kernel⟩
theorem w_f_Mo_197 : Cond.fieldLink "ObservedBlocksModel" 197 (T_11 51).1 (T_11 51).2.1 (T_11 51).2.2.1 ∈ ob_T := List.mem_filter.mpr ⟨List.mem_of_getElem? (i := 986) (by decide +kernel), by decide +kernel⟩
theorem w_f_Mo_188 : Cond.fieldLink "ObservedBlocksModel" 188 (T_11 52).1 (T_11 52).2.1 (T_11 52).2.2.1 ∈ ob_T := List.mem_filter.mpr ⟨List.mem_of_getElem? (i := 987) (by decide +kernel), by decide +kernel⟩
theorem w_f_Mo_166 : Cond.fieldLink "ObservedBlocksModel" 166 (T_11 53).1 (T_11 53).2.1 (T_11 53).2.2.1 ∈ ob_T := List.mem_filter.mpr ⟨List.mem_of_getElem? (i := 988) (by decide +kernel), by decide +kernel⟩
theorem w_f_Mo_178 : Cond.fieldLink "ObservedBlocksModel" 178 (T_11 54).1 (T_11 54).2.1 (T_11 54).2.2.1 ∈ ob_T := List.mem_filter.mpr ⟨List.mem_of_getElem? (i := 989) (by decide +kernel), by decide +kernel⟩
theorem w_f_Mo_132 : Cond.fieldLink "ObservedBlocksModel" 132 (T_11 55).1 (T_11 55).2.1 (T_11 55).2.2.1 ∈ ob_T := List.mem_filter.mpr ⟨List.mem_of_getElem? (i := 990) (by decide +kernel), by decide +kernel⟩
theorem w_f_Mo_135 : Cond.fieldLink "ObservedBlocksModel" 135 (T_11 56).1 (T_11 56).2.1 (T_11 56).2.2.1 ∈ ob_T := List.mem_filter.mpr ⟨List.mem_of_getElem? (i := 991) (by decide +kernel), by decide +kernel⟩
theorem w_f_Mo_169 : Cond.fieldLink "ObservedBlocksModel" 169 (T_11 57).1 (T_11 57).2.1 (T_11 57).2.2.1 ∈ ob_T := List.mem_filter.mpr ⟨List.mem_of_getElem? (i := 992) (by decide +kernel), by decide +kernel⟩
theorem w_f_Mo_172 : Cond.fieldLink "ObservedBlocksModel" 172 (T_11 58).1 (T_11 58).2.1 (T_11 58).2.2.1 ∈ ob_T := List.mem_filter.mpr ⟨List.mem_of_getElem? (i := 993) (by decide +kernel), by decide +kernel⟩
theorem w_f_Mo_203 : Cond.fieldLink "ObservedBlocksModel" 203 (T_11 59).1 (T_11 59).2.1 (T_11 59).2.2.1 ∈ ob_T := List.mem_filter.mpr ⟨List.mem_of_getElem? (i := 994) (by decide +kernel), by decide +kernel⟩
theorem w_f_Mo_185 : Cond.fieldLink "ObservedBlocksModel" 185 (T_11 60).1 (T_11 60).2.1 (T_11 60).2.2.1 ∈ ob_T := List.mem_filter.mpr ⟨List.mem_of_getElem? (i := 995) (by decide +kernel), by decide +kernel⟩
theorem w_m_Law_9 : Cond.methodLink "ObservedBlocksLaw" 9 y_Ob_init ∈ ob_T := List.mem_filter.mpr ⟨List.mem_of_getElem? (i := 82) (by decide +kernel), by decide +kernel⟩
theorem w_m_Ob_1 : Cond.methodLink "ObservedBlocks" 1 objectInit ∈ ob_T := List.mem_filter.mpr ⟨List.mem_of_getElem? (i := 85) (by decide +kernel), by decide +kernel⟩
theorem w_m_Ob_9 : Cond.methodLink "ObservedBlocks" 9 y_Li_init ∈ ob_T := List.mem_filter.mpr ⟨List.mem_of_getElem? (i := 90) (by decide +kernel), by decide +kernel⟩
theorem w_m_Li_3 : Cond.methodLink "ObservedBlocks$Line" 3 objectInit ∈ ob_T := List.mem_filter.mpr ⟨List.mem_of_getElem? (i := 93) (by decide +kernel), by decide +kernel⟩
theorem w_m_Li_21 : Cond.methodLink "ObservedBlocks$Line" 21 y_By_init ∈ ob_T := List.mem_filter.mpr ⟨List.mem_of_getElem? (i := 97) (by decide +kernel), by decide +kernel⟩
theorem w_m_By_3 : Cond.methodLink "ObservedBlocks$Bytes" 3 objectInit ∈ ob_T := List.mem_filter.mpr ⟨List.mem_of_getElem? (i := 100) (by decide +kernel), by decide +kernel⟩
theorem w_m_Ob_18 : Cond.methodLink "ObservedBlocks" 18 y_Cl_init ∈ ob_T := List.mem_filter.mpr ⟨List.mem_of_getElem? (i := 130) (by decide +kernel), by decide +kernel⟩
theorem w_m_Cl_3 : Cond.methodLink "ObservedBlocks$Client" 3 objectInit ∈ ob_T := List.mem_filter.mpr ⟨List.mem_of_getElem? (i := 133) (by decide +kernel), by decide +kernel⟩
theorem w_m_Cl_17 : Cond.methodLink "ObservedBlocks$Client" 17 y_Sl_init ∈ ob_T := List.mem_filter.mpr ⟨List.mem_of_getElem? (i := 137) (by decide +kernel), by decide +kernel⟩
theorem w_m_Sl_3 : Cond.methodLink "ObservedBlocks$Slot" 3 objectInit ∈ ob_T := List.mem_filter.mpr ⟨List.mem_of_getElem? (i := 140) (by decide +kernel), by decide +kernel⟩
theorem w_m_Sl_11 : Cond.methodLink "ObservedBlocks$Slot" 11 y_By_init ∈ ob_T := List.mem_filter.mpr ⟨List.mem_of_getElem? (i := 142) (by decide +kernel), by decide +kernel⟩
theorem w_m_Sl_22 : Cond.methodLink "ObservedBlocks$Slot" 22 y_Pe_init ∈ ob_T := List.mem_filter.mpr ⟨List.mem_of_getElem? (i := 145) (by decide +kernel), by decide +kernel⟩
theorem w_m_Pe_3 : Cond.methodLink "ObservedBlocks$Pending" 3 objectInit ∈ ob_T := List.mem_filter.mpr ⟨List.mem_of_getElem? (i := 148) (by decide +kernel), by decide +kernel⟩
theorem w_m_Pe_11 : Cond.methodLink "ObservedBlocks$Pending" 11 y_By_init ∈ ob_T := List.mem_filter.mpr ⟨List.mem_of_getElem? (i := 150) (by decide +kernel), by decide +kernel⟩
theorem w_m_Cl_26 : Cond.methodLink "ObservedBlocks$Client" 26 y_Wr_init ∈ ob_T := List.mem_filter.mpr ⟨List.mem_of_getElem? (i := 228) (by decide +kernel), by decide +kernel⟩
theorem w_m_Wr_3 : Cond.methodLink "ObservedBlocks$Writer" 3 objectInit ∈ ob_T := List.mem_filter.mpr ⟨List.mem_of_getElem? (i := 231) (by decide +kernel), by decide +kernel⟩
theorem w_m_Wr_11 : Cond.methodLink "ObservedBlocks$Writer" 11 y_By_init ∈ ob_T := List.mem_filter.mpr ⟨List.mem_of_getElem? (i := 233) (by decide +kernel), by decide +kernel⟩
theorem w_m_Ob_27 : Cond.methodLink "ObservedBlocks" 27 y_Se_init ∈ ob_T := List.mem_filter.mpr ⟨List.mem_of_getElem? (i := 259) (by decide +kernel), by decide +kernel⟩
theorem w_m_Se_3 : Cond.methodLink "ObservedBlocks$Server" 3 objectInit ∈ ob_T := List.mem_filter.mpr ⟨List.mem_of_getElem? (i := 262) (by decide +kernel), by decide +kernel⟩
theorem w_m_Se_20 : Cond.methodLink "ObservedBlocks$Server" 20 y_By_init ∈ ob_T := List.mem_filter.mpr ⟨List.mem_of_getElem? (i := 264) (by decide +kernel), by decide +kernel⟩
theorem w_m_Se_29 : Cond.methodLink "ObservedBlocks$Server" 29 y_Wa_init ∈ ob_T := List.mem_filter.mpr ⟨List.mem_of_getElem? (i := 268) (by decide +kernel), by decide +kernel⟩
theorem w_m_Wa_1 : Cond.methodLink "ObservedBlocks$Watcher" 1 objectInit ∈ ob_T := List.mem_filter.mpr ⟨List.mem_of_getElem? (i := 271) (by decide +kernel), by decide +kernel⟩
theorem w_m_Wa_9 : Cond.methodLink "ObservedBlocks$Watcher" 9 y_Pe_init ∈ ob_T := List.mem_filter.mpr ⟨List.mem_of_getElem? (i := 273) (by decide +kernel), by decide +kernel⟩
theorem w_m_Se_32 : Cond.methodLink "ObservedBlocks$Server" 32 y_Me_init ∈ ob_T := List.mem_filter.mpr ⟨List.mem_of_getElem? (i := 297) (by decide +kernel), by decide +kernel⟩
theorem w_m_Me_3 : Cond.methodLink "ObservedBlocks$Memory" 3 objectInit ∈ ob_T := List.mem_filter.mpr ⟨List.mem_of_getElem? (i := 300) (by decide +kernel), by decide +kernel⟩
theorem w_m_Me_24 : Cond.methodLink "ObservedBlocks$Memory" 24 y_By_init ∈ ob_T := List.mem_filter.mpr ⟨List.mem_of_getElem? (i := 302) (by decide +kernel), by decide +kernel⟩
theorem w_m_Se_43 : Cond.methodLink "ObservedBlocks$Server" 43 y_Wr_init ∈ ob_T := List.mem_filter.mpr ⟨List.mem_of_getElem? (i := 318) (by decide +kernel), by decide +kernel⟩
theorem w_m_Ob_34 : Cond.methodLink "ObservedBlocks" 34 y_Ms_init ∈ ob_T := List.mem_filter.mpr ⟨List.mem_of_getElem? (i := 356) (by decide +kernel), by decide +kernel⟩
theorem w_m_Ms_3 : Cond.methodLink "ObservedBlocks$Message" 3 objectInit ∈ ob_T := List.mem_filter.mpr ⟨List.mem_of_getElem? (i := 359) (by decide +kernel), by decide +kernel⟩
theorem w_m_Ms_11 : Cond.methodLink "ObservedBlocks$Message" 11 y_By_init ∈ ob_T := List.mem_filter.mpr ⟨List.mem_of_getElem? (i := 361) (by decide +kernel), by decide +kernel⟩
theorem w_m_Law_13 : Cond.methodLink "ObservedBlocksLaw" 13 y_Ob_get ∈ ob_T := List.mem_filter.mpr ⟨List.mem_of_getElem? (i := 441) (by decide +kernel), by decide +kernel⟩
theorem w_m_Ob_43 : Cond.methodLink "ObservedBlocks" 43 y_Ob_isAskable ∈ ob_T := List.mem_filter.mpr ⟨List.mem_of_getElem? (i := 445) (by decide +kernel), by decide +kernel⟩
theorem w_m_Ob_67 : Cond.methodLink "ObservedBlocks" 67 y_Ob_isWithin ∈ ob_T := List.mem_filter.mpr ⟨List.mem_of_getElem? (i := 448) (by decide +kernel), by decide +kernel⟩
theorem w_m_Ob_56 : Cond.methodLink "ObservedBlocks" 56 y_Sl_begin ∈ ob_T := List.mem_filter.mpr ⟨List.mem_of_getElem? (i := 451) (by decide +kernel), by decide +kernel⟩
theorem w_m_Sl_65 : Cond.methodLink "ObservedBlocks$Slot" 65 y_By_clear ∈ ob_T := List.mem_filter.mpr ⟨List.mem_of_getElem? (i := 455) (by decide +kernel), by decide +kernel⟩
theorem w_m_Ob_60 : Cond.methodLink "ObservedBlocks" 60 y_Cl_ask ∈ ob_T := List.mem_filter.mpr ⟨List.mem_of_getElem? (i := 459) (by decide +kernel), by decide +kernel⟩
theorem w_m_Cl_42 : Cond.methodLink "ObservedBlocks$Client" 42 y_Wr_begin ∈ ob_T := List.mem_filter.mpr ⟨List.mem_of_getElem? (i := 463) (by decide +kernel), by decide +kernel⟩
theorem w_m_Wr_24 : Cond.methodLink "ObservedBlocks$Writer" 24 y_By_clear ∈ ob_T := List.mem_filter.mpr ⟨List.mem_of_getElem? (i := 467) (by decide +kernel), by decide +kernel⟩
theorem w_m_Wr_27 : Cond.methodLink "ObservedBlocks$Writer" 27 y_By_add ∈ ob_T := List.mem_filter.mpr ⟨List.mem_of_getElem? (i := 468) (by decide +kernel), by decide +kernel⟩
theorem w_m_Cl_46 : Cond.methodLink "ObservedBlocks$Client" 46 y_Sl_asksToWatch ∈ ob_T := List.mem_filter.mpr ⟨List.mem_of_getElem? (i := 472) (by decide +kernel), by decide +kernel⟩
theorem w_m_Cl_50 : Cond.methodLink "ObservedBlocks$Client" 50 y_Wr_addNumber ∈ ob_T := List.mem_filter.mpr ⟨List.mem_of_getElem? (i := 476) (by decide +kernel), by decide +kernel⟩
theorem w_m_Wr_30 : Cond.methodLink "ObservedBlocks$Writer" 30 y_Wr_addHead ∈ ob_T := List.mem_filter.mpr ⟨List.mem_of_getElem? (i := 480) (by decide +kernel), by decide +kernel⟩
theorem w_m_Wr_52 : Cond.methodLink "ObservedBlocks$Writer" 52 Lib.Math.min.name ∈ ob_T := List.mem_filter.mpr ⟨List.mem_of_getElem? (i := 484) (by decide +kernel), by decide +kernel⟩
theorem w_m_Cl_61 : Cond.methodLink "ObservedBlocks$Client" 61 y_Wr_addSegment ∈ ob_T := List.mem_filter.mpr ⟨List.mem_of_getElem? (i := 493) (by decide +kernel), by decide +kernel⟩
theorem w_m_Wr_34 : Cond.methodLink "ObservedBlocks$Writer" 34 y_Str_length ∈ ob_T := List.mem_filter.mpr ⟨List.mem_of_getElem? (i := 497) (by decide +kernel), by decide +kernel⟩
theorem w_m_Wr_40 : Cond.methodLink "ObservedBlocks$Writer" 40 y_Str_charAt ∈ ob_T := List.mem_filter.mpr ⟨List.mem_of_getElem? (i := 507) (by decide +kernel), by decide +kernel⟩
theorem w_m_Cl_68 : Cond.methodLink "ObservedBlocks$Client" 68 y_Str_isEmpty ∈ ob_T := List.mem_filter.mpr ⟨List.mem_of_getElem? (i := 551) (by decide +kernel), by decide +kernel⟩
theorem w_m_Cl_83 : Cond.methodLink "ObservedBlocks$Client" 83 y_Sl_hasMoreToPut ∈ ob_T := List.mem_filter.mpr ⟨List.mem_of_getElem? (i := 558) (by decide +kernel), by decide +kernel⟩
theorem w_m_Cl_94 : Cond.methodLink "ObservedBlocks$Client" 94 y_Wr_addPayload ∈ ob_T := List.mem_filter.mpr ⟨List.mem_of_getElem? (i := 566) (by decide +kernel), by decide +kernel⟩
theorem w_m_Wr_44 : Cond.methodLink "ObservedBlocks$Writer" 44 y_By_has ∈ ob_T := List.mem_filter.mpr ⟨List.mem_of_getElem? (i := 570) (by decide +kernel), by decide +kernel⟩
theorem w_m_Wr_48 : Cond.methodLink "ObservedBlocks$Writer" 48 y_By_addFrom ∈ ob_T := List.mem_filter.mpr ⟨List.mem_of_getElem? (i := 574) (by decide +kernel), by decide +kernel⟩
theorem w_m_By_23 : Cond.methodLink "ObservedBlocks$Bytes" 23 Lib.Math.min.name ∈ ob_T := List.mem_filter.mpr ⟨List.mem_of_getElem? (i := 578) (by decide +kernel), by decide +kernel⟩
theorem w_m_By_29 : Cond.methodLink "ObservedBlocks$Bytes" 29 arraycopyName ∈ ob_T := List.mem_filter.mpr ⟨List.mem_of_getElem? (i := 579) (by decide +kernel), by decide +kernel⟩
theorem w_m_Cl_108 : Cond.methodLink "ObservedBlocks$Client" 108 y_Pe_start ∈ ob_T := List.mem_filter.mpr ⟨List.mem_of_getElem? (i := 582) (by decide +kernel), by decide +kernel⟩
theorem w_m_Pe_24 : Cond.methodLink "ObservedBlocks$Pending" 24 y_By_become ∈ ob_T := List.mem_filter.mpr ⟨List.mem_of_getElem? (i := 586) (by decide +kernel), by decide +kernel⟩
theorem w_m_Cl_117 : Cond.methodLink "ObservedBlocks$Client" 117 y_Li_send ∈ ob_T := List.mem_filter.mpr ⟨List.mem_of_getElem? (i := 594) (by decide +kernel), by decide +kernel⟩
theorem w_m_Li_28 : Cond.methodLink "ObservedBlocks$Line" 28 y_By_become ∈ ob_T := List.mem_filter.mpr ⟨List.mem_of_getElem? (i := 598) (by decide +kernel), by decide +kernel⟩
theorem w_m_Law_18 : Cond.methodLink "ObservedBlocksLaw" 18 y_Ob_put ∈ ob_T := List.mem_filter.mpr ⟨List.mem_of_getElem? (i := 600) (by decide +kernel), by decide +kernel⟩
theorem w_m_Ob_75 : Cond.methodLink "ObservedBlocks" 75 y_By_fill ∈ ob_T := List.mem_filter.mpr ⟨List.mem_of_getElem? (i := 604) (by decide +kernel), by decide +kernel⟩
theorem w_m_By_35 : Cond.methodLink "ObservedBlocks$Bytes" 35 y_By_clear ∈ ob_T := List.mem_filter.mpr ⟨List.mem_of_getElem? (i := 608) (by decide +kernel), by decide +kernel⟩
theorem w_m_By_38 : Cond.methodLink "ObservedBlocks$Bytes" 38 y_By_add ∈ ob_T := List.mem_filter.mpr ⟨List.mem_of_getElem? (i := 609) (by decide +kernel), by decide +kernel⟩
theorem w_m_Law_23 : Cond.methodLink "ObservedBlocksLaw" 23 y_Ob_free ∈ ob_T := List.mem_filter.mpr ⟨List.mem_of_getElem? (i := 610) (by decide +kernel), by decide +kernel⟩
theorem w_m_Ob_81 : Cond.methodLink "ObservedBlocks" 81 y_Sl_end ∈ ob_T := List.mem_filter.mpr ⟨List.mem_of_getElem? (i := 614) (by decide +kernel), by decide +kernel⟩
theorem w_m_Sl_68 : Cond.methodLink "ObservedBlocks$Slot" 68 y_Pe_stop ∈ ob_T := List.mem_filter.mpr ⟨List.mem_of_getElem? (i := 618) (by decide +kernel), by decide +kernel⟩
theorem w_m_Law_28 : Cond.methodLink "ObservedBlocksLaw" 28 y_Ob_change ∈ ob_T := List.mem_filter.mpr ⟨List.mem_of_getElem? (i := 622) (by decide +kernel), by decide +kernel⟩
theorem w_m_Ob_88 : Cond.methodLink "ObservedBlocks" 88 y_Se_tellWatchersOf ∈ ob_T := List.mem_filter.mpr ⟨List.mem_of_getElem? (i := 626) (by decide +kernel), by decide +kernel⟩
theorem w_m_Se_202 : Cond.methodLink "ObservedBlocks$Server" 202 y_Se_tell ∈ ob_T := List.mem_filter.mpr ⟨List.mem_of_getElem? (i := 630) (by decide +kernel), by decide +kernel⟩
theorem w_m_Se_206 : Cond.methodLink "ObservedBlocks$Server" 206 y_Pe_isActive ∈ ob_T := List.mem_filter.mpr ⟨List.mem_of_getElem? (i := 634) (by decide +kernel), by decide +kernel⟩
theorem w_m_Se_90 : Cond.methodLink "ObservedBlocks$Server" 90 y_Wr_begin ∈ ob_T := List.mem_filter.mpr ⟨List.mem_of_getElem? (i := 639) (by decide +kernel), by decide +kernel⟩
theorem w_m_Se_101 : Cond.methodLink "ObservedBlocks$Server" 101 y_Wr_addNumber ∈ ob_T := List.mem_filter.mpr ⟨List.mem_of_getElem? (i := 640) (by decide +kernel), by decide +kernel⟩
theorem w_m_Se_172 : Cond.methodLink "ObservedBlocks$Server" 172 y_Se_blockIn ∈ ob_T := List.mem_filter.mpr ⟨List.mem_of_getElem? (i := 641) (by decide +kernel), by decide +kernel⟩
theorem w_m_Se_176 : Cond.methodLink "ObservedBlocks$Server" 176 y_Wr_addPayload ∈ ob_T := List.mem_filter.mpr ⟨List.mem_of_getElem? (i := 647) (by decide +kernel), by decide +kernel⟩
theorem w_m_Se_217 : Cond.methodLink "ObservedBlocks$Server" 217 y_Pe_start ∈ ob_T := List.mem_filter.mpr ⟨List.mem_of_getElem? (i := 648) (by decide +kernel), by decide +kernel⟩
theorem w_m_Se_67 : Cond.methodLink "ObservedBlocks$Server" 67 y_Li_send ∈ ob_T := List.mem_filter.mpr ⟨List.mem_of_getElem? (i := 649) (by decide +kernel), by decide +kernel⟩
theorem w_m_Law_33 : Cond.methodLink "ObservedBlocksLaw" 33 y_Ob_tick ∈ ob_T := List.mem_filter.mpr ⟨List.mem_of_getElem? (i := 650) (by decide +kernel), by decide +kernel⟩
theorem w_m_Ob_92 : Cond.methodLink "ObservedBlocks" 92 y_Cl_pass ∈ ob_T := List.mem_filter.mpr ⟨List.mem_of_getElem? (i := 654) (by decide +kernel), by decide +kernel⟩
theorem w_m_Cl_164 : Cond.methodLink "ObservedBlocks$Client" 164 y_Pe_pass ∈ ob_T := List.mem_filter.mpr ⟨List.mem_of_getElem? (i := 658) (by decide +kernel), by decide +kernel⟩
theorem w_m_Ob_95 : Cond.methodLink "ObservedBlocks" 95 y_Se_pass ∈ ob_T := List.mem_filter.mpr ⟨List.mem_of_getElem? (i := 662) (by decide +kernel), by decide +kernel⟩
theorem w_m_Se_227 : Cond.methodLink "ObservedBlocks$Server" 227 y_Pe_pass ∈ ob_T := List.mem_filter.mpr ⟨List.mem_of_getElem? (i := 666) (by decide +kernel), by decide +kernel⟩
theorem w_m_Se_169 : Cond.methodLink "ObservedBlocks$Server" 169 y_Se_endWatch ∈ ob_T := List.mem_filter.mpr ⟨List.mem_of_getElem? (i := 667) (by decide +kernel), by decide +kernel⟩
theorem w_m_Se_194 : Cond.methodLink "ObservedBlocks$Server" 194 y_Pe_stop ∈ ob_T := List.mem_filter.mpr ⟨List.mem_of_getElem? (i := 671) (by decide +kernel), by decide +kernel⟩
theorem w_m_Law_38 : Cond.methodLink "ObservedBlocksLaw" 38 y_Ob_deliver ∈ ob_T := List.mem_filter.mpr ⟨List.mem_of_getElem? (i := 672) (by decide +kernel), by decide +kernel⟩
theorem w_m_Ob_96 : Cond.methodLink "ObservedBlocks" 96 y_Li_has ∈ ob_T := List.mem_filter.mpr ⟨List.mem_of_getElem? (i := 676) (by decide +kernel), by decide +kernel⟩
theorem w_m_Ob_107 : Cond.methodLink "ObservedBlocks" 107 y_Ms_read ∈ ob_T := List.mem_filter.mpr ⟨List.mem_of_getElem? (i := 680) (by decide +kernel), by decide +kernel⟩
theorem w_m_Ms_53 : Cond.methodLink "ObservedBlocks$Message" 53 y_Ms_forget ∈ ob_T := List.mem_filter.mpr ⟨List.mem_of_getElem? (i := 684) (by decide +kernel), by decide +kernel⟩
theorem w_m_Ms_88 : Cond.methodLink "ObservedBlocks$Message" 88 y_By_clear ∈ ob_T := List.mem_filter.mpr ⟨List.mem_of_getElem? (i := 688) (by decide +kernel), by decide +kernel⟩
theorem w_m_Ms_72 : Cond.methodLink "ObservedBlocks$Message" 72 y_Ms_readOptions ∈ ob_T := List.mem_filter.mpr ⟨List.mem_of_getElem? (i := 689) (by decide +kernel), by decide +kernel⟩
theorem w_m_Ms_94 : Cond.methodLink "ObservedBlocks$Message" 94 y_Ms_isAtOption ∈ ob_T := List.mem_filter.mpr ⟨List.mem_of_getElem? (i := 693) (by decide +kernel), by decide +kernel⟩
theorem w_m_Ms_103 : Cond.methodLink "ObservedBlocks$Message" 103 y_By_has ∈ ob_T := List.mem_filter.mpr ⟨List.mem_of_getElem? (i := 697) (by decide +kernel), by decide +kernel⟩
theorem w_m_Ms_97 : Cond.methodLink "ObservedBlocks$Message" 97 y_Ms_readHead ∈ ob_T := List.mem_filter.mpr ⟨List.mem_of_getElem? (i := 698) (by decide +kernel), by decide +kernel⟩
theorem w_m_Ms_100 : Cond.methodLink "ObservedBlocks$Message" 100 y_Ms_keepValue ∈ ob_T := List.mem_filter.mpr ⟨List.mem_of_getElem? (i := 702) (by decide +kernel), by decide +kernel⟩
theorem w_m_Ms_113 : Cond.methodLink "ObservedBlocks$Message" 113 y_Ms_numberIn ∈ ob_T := List.mem_filter.mpr ⟨List.mem_of_getElem? (i := 706) (by decide +kernel), by decide +kernel⟩
theorem w_m_Ms_127 : Cond.methodLink "ObservedBlocks$Message" 127 y_By_byteOrBad ∈ ob_T := List.mem_filter.mpr ⟨List.mem_of_getElem? (i := 710) (by decide +kernel), by decide +kernel⟩
theorem w_m_By_19 : Cond.methodLink "ObservedBlocks$Bytes" 19 y_By_has ∈ ob_T := List.mem_filter.mpr ⟨List.mem_of_getElem? (i := 714) (by decide +kernel), by decide +kernel⟩
theorem w_m_Ms_117 : Cond.methodLink "ObservedBlocks$Message" 117 y_Ms_keepSegment ∈ ob_T := List.mem_filter.mpr ⟨List.mem_of_getElem? (i := 715) (by decide +kernel), by decide +kernel⟩
theorem w_m_Ms_123 : Cond.methodLink "ObservedBlocks$Message" 123 y_By_addFrom ∈ ob_T := List.mem_filter.mpr ⟨List.mem_of_getElem? (i := 719) (by decide +kernel), by decide +kernel⟩
theorem w_m_Ms_120 : Cond.methodLink "ObservedBlocks$Message" 120 y_Ms_isBlock ∈ ob_T := List.mem_filter.mpr ⟨List.mem_of_getElem? (i := 720) (by decide +kernel), by decide +kernel⟩
theorem w_m_Ms_76 : Cond.methodLink "ObservedBlocks$Message" 76 y_Ms_readPayload ∈ ob_T := List.mem_filter.mpr ⟨List.mem_of_getElem? (i := 726) (by decide +kernel), by decide +kernel⟩
theorem w_m_Ob_111 : Cond.methodLink "ObservedBlocks" 111 y_Li_takeOut ∈ ob_T := List.mem_filter.mpr ⟨List.mem_of_getElem? (i := 730) (by decide +kernel), by decide +kernel⟩
theorem w_m_Li_32 : Cond.methodLink "ObservedBlocks$Line" 32 y_Li_has ∈ ob_T := List.mem_filter.mpr ⟨List.mem_of_getElem? (i := 734) (by decide +kernel), by decide +kernel⟩
theorem w_m_Ob_114 : Cond.methodLink "ObservedBlocks" 114 y_Cl_receive ∈ ob_T := List.mem_filter.mpr ⟨List.mem_of_getElem? (i := 735) (by decide +kernel), by decide +kernel⟩
theorem w_m_Cl_128 : Cond.methodLink "ObservedBlocks$Client" 128 y_Cl_receiveAnswer ∈ ob_T := List.mem_filter.mpr ⟨List.mem_of_getElem? (i := 739) (by decide +kernel), by decide +kernel⟩
theorem w_m_Cl_138 : Cond.methodLink "ObservedBlocks$Client" 138 y_Sl_isAskedFor ∈ ob_T := List.mem_filter.mpr ⟨List.mem_of_getElem? (i := 743) (by decide +kernel), by decide +kernel⟩
theorem w_m_Sl_76 : Cond.methodLink "ObservedBlocks$Slot" 76 y_Pe_isFor ∈ ob_T := List.mem_filter.mpr ⟨List.mem_of_getElem? (i := 747) (by decide +kernel), by decide +kernel⟩
theorem w_m_Cl_142 : Cond.methodLink "ObservedBlocks$Client" 142 y_Sl_takeAnswer ∈ ob_T := List.mem_filter.mpr ⟨List.mem_of_getElem? (i := 751) (by decide +kernel), by decide +kernel⟩
theorem w_m_Sl_91 : Cond.methodLink "ObservedBlocks$Slot" 91 y_Sl_isBlockDue ∈ ob_T := List.mem_filter.mpr ⟨List.mem_of_getElem? (i := 755) (by decide +kernel), by decide +kernel⟩
theorem w_m_Sl_95 : Cond.methodLink "ObservedBlocks$Slot" 95 y_Sl_takeBlock ∈ ob_T := List.mem_filter.mpr ⟨List.mem_of_getElem? (i := 763) (by decide +kernel), by decide +kernel⟩
theorem w_m_Sl_114 : Cond.methodLink "ObservedBlocks$Slot" 114 y_By_cutTo ∈ ob_T := List.mem_filter.mpr ⟨List.mem_of_getElem? (i := 767) (by decide +kernel), by decide +kernel⟩
theorem w_m_Sl_117 : Cond.methodLink "ObservedBlocks$Slot" 117 y_By_addFrom ∈ ob_T := List.mem_filter.mpr ⟨List.mem_of_getElem? (i := 771) (by decide +kernel), by decide +kernel⟩
theorem w_m_Sl_124 : Cond.methodLink "ObservedBlocks$Slot" 124 y_Sl_goOn ∈ ob_T := List.mem_filter.mpr ⟨List.mem_of_getElem? (i := 772) (by decide +kernel), by decide +kernel⟩
theorem w_m_Sl_98 : Cond.methodLink "ObservedBlocks$Slot" 98 y_Sl_hasMoreToPut ∈ ob_T := List.mem_filter.mpr ⟨List.mem_of_getElem? (i := 779) (by decide +kernel), by decide +kernel⟩
theorem w_m_Cl_145 : Cond.methodLink "ObservedBlocks$Client" 145 y_Cl_ask ∈ ob_T := List.mem_filter.mpr ⟨List.mem_of_getElem? (i := 780) (by decide +kernel), by decide +kernel⟩
theorem w_m_Cl_135 : Cond.methodLink "ObservedBlocks$Client" 135 y_Cl_receiveNews ∈ ob_T := List.mem_filter.mpr ⟨List.mem_of_getElem? (i := 781) (by decide +kernel), by decide +kernel⟩
theorem w_m_Cl_149 : Cond.methodLink "ObservedBlocks$Client" 149 y_Sl_isWatchedFor ∈ ob_T := List.mem_filter.mpr ⟨List.mem_of_getElem? (i := 785) (by decide +kernel), by decide +kernel⟩
theorem w_m_Cl_155 : Cond.methodLink "ObservedBlocks$Client" 155 y_Wr_beginEmpty ∈ ob_T := List.mem_filter.mpr ⟨List.mem_of_getElem? (i := 789) (by decide +kernel), by decide +kernel⟩
theorem w_m_Cl_158 : Cond.methodLink "ObservedBlocks$Client" 158 y_Sl_isNews ∈ ob_T := List.mem_filter.mpr ⟨List.mem_of_getElem? (i := 793) (by decide +kernel), by decide +kernel⟩
theorem w_m_Cl_161 : Cond.methodLink "ObservedBlocks$Client" 161 y_Sl_takeNews ∈ ob_T := List.mem_filter.mpr ⟨List.mem_of_getElem? (i := 798) (by decide +kernel), by decide +kernel⟩
theorem w_m_Sl_128 : Cond.methodLink "ObservedBlocks$Slot" 128 y_By_become ∈ ob_T := List.mem_filter.mpr ⟨List.mem_of_getElem? (i := 802) (by decide +kernel), by decide +kernel⟩
theorem w_m_Ob_118 : Cond.methodLink "ObservedBlocks" 118 y_Ms_isRequest ∈ ob_T := List.mem_filter.mpr ⟨List.mem_of_getElem? (i := 803) (by decide +kernel), by decide +kernel⟩
theorem w_m_Ob_122 : Cond.methodLink "ObservedBlocks" 122 y_Se_answer ∈ ob_T := List.mem_filter.mpr ⟨List.mem_of_getElem? (i := 807) (by decide +kernel), by decide +kernel⟩
theorem w_m_Se_60 : Cond.methodLink "ObservedBlocks$Server" 60 y_Me_find ∈ ob_T := List.mem_filter.mpr ⟨List.mem_of_getElem? (i := 811) (by decide +kernel), by decide +kernel⟩
theorem w_m_Me_31 : Cond.methodLink "ObservedBlocks$Memory" 31 y_Me_placeOf ∈ ob_T := List.mem_filter.mpr ⟨List.mem_of_getElem? (i := 815) (by decide +kernel), by decide +kernel⟩
theorem w_m_Se_76 : Cond.methodLink "ObservedBlocks$Server" 76 y_Se_resourceUnder ∈ ob_T := List.mem_filter.mpr ⟨List.mem_of_getElem? (i := 819) (by decide +kernel), by decide +kernel⟩
theorem w_m_Se_113 : Cond.methodLink "ObservedBlocks$Server" 113 y_Ms_isUnder ∈ ob_T := List.mem_filter.mpr ⟨List.mem_of_getElem? (i := 823) (by decide +kernel), by decide +kernel⟩
theorem w_m_Ms_37 : Cond.methodLink "ObservedBlocks$Message" 37 y_Str_isEmpty ∈ ob_T := List.mem_filter.mpr ⟨List.mem_of_getElem? (i := 828) (by decide +kernel), by decide +kernel⟩
theorem w_m_Ms_49 : Cond.methodLink "ObservedBlocks$Message" 49 y_By_spells ∈ ob_T := List.mem_filter.mpr ⟨List.mem_of_getElem? (i := 830) (by decide +kernel), by decide +kernel⟩
theorem w_m_By_42 : Cond.methodLink "ObservedBlocks$Bytes" 42 y_Str_length ∈ ob_T := List.mem_filter.mpr ⟨List.mem_of_getElem? (i := 834) (by decide +kernel), by decide +kernel⟩
theorem w_m_By_47 : Cond.methodLink "ObservedBlocks$Bytes" 47 y_Str_charAt ∈ ob_T := List.mem_filter.mpr ⟨List.mem_of_getElem? (i := 835) (by decide +kernel), by decide +kernel⟩
theorem w_m_Se_80 : Cond.methodLink "ObservedBlocks$Server" 80 y_Se_handle ∈ ob_T := List.mem_filter.mpr ⟨List.mem_of_getElem? (i := 836) (by decide +kernel), by decide +kernel⟩
theorem w_m_Se_123 : Cond.methodLink "ObservedBlocks$Server" 123 y_Se_takePart ∈ ob_T := List.mem_filter.mpr ⟨List.mem_of_getElem? (i := 840) (by decide +kernel), by decide +kernel⟩
theorem w_m_Se_136 : Cond.methodLink "ObservedBlocks$Server" 136 y_By_clear ∈ ob_T := List.mem_filter.mpr ⟨List.mem_of_getElem? (i := 845) (by decide +kernel), by decide +kernel⟩
theorem w_m_Se_142 : Cond.methodLink "ObservedBlocks$Server" 142 y_By_addFrom ∈ ob_T := List.mem_filter.mpr ⟨List.mem_of_getElem? (i := 847) (by decide +kernel), by decide +kernel⟩
theorem w_m_Se_149 : Cond.methodLink "ObservedBlocks$Server" 149 y_By_become ∈ ob_T := List.mem_filter.mpr ⟨List.mem_of_getElem? (i := 849) (by decide +kernel), by decide +kernel⟩
theorem w_m_Se_84 : Cond.methodLink "ObservedBlocks$Server" 84 y_Se_tellWatchersOf ∈ ob_T := List.mem_filter.mpr ⟨List.mem_of_getElem? (i := 850) (by decide +kernel), by decide +kernel⟩
theorem w_m_Se_94 : Cond.methodLink "ObservedBlocks$Server" 94 y_Se_addContent ∈ ob_T := List.mem_filter.mpr ⟨List.mem_of_getElem? (i := 851) (by decide +kernel), by decide +kernel⟩
theorem w_m_Se_156 : Cond.methodLink "ObservedBlocks$Server" 156 y_Se_beginWatch ∈ ob_T := List.mem_filter.mpr ⟨List.mem_of_getElem? (i := 855) (by decide +kernel), by decide +kernel⟩
theorem w_m_Se_166 : Cond.methodLink "ObservedBlocks$Server" 166 y_Se_watcherWith ∈ ob_T := List.mem_filter.mpr ⟨List.mem_of_getElem? (i := 859) (by decide +kernel), by decide +kernel⟩
theorem w_m_Se_187 : Cond.methodLink "ObservedBlocks$Server" 187 y_Wa_begin ∈ ob_T := List.mem_filter.mpr ⟨List.mem_of_getElem? (i := 863) (by decide +kernel), by decide +kernel⟩
theorem w_m_Wa_16 : Cond.methodLink "ObservedBlocks$Watcher" 16 y_Pe_stop ∈ ob_T := List.mem_filter.mpr ⟨List.mem_of_getElem? (i := 867) (by decide +kernel), by decide +kernel⟩
theorem w_m_Se_109 : Cond.methodLink "ObservedBlocks$Server" 109 y_Me_keep ∈ ob_T := List.mem_filter.mpr ⟨List.mem_of_getElem? (i := 868) (by decide +kernel), by decide +kernel⟩
theorem w_m_Me_35 : Cond.methodLink "ObservedBlocks$Memory" 35 y_Me_takeOut ∈ ob_T := List.mem_filter.mpr ⟨List.mem_of_getElem? (i := 872) (by decide +kernel), by decide +kernel⟩
theorem w_m_Me_38 : Cond.methodLink "ObservedBlocks$Memory" 38 y_By_become ∈ ob_T := List.mem_filter.mpr ⟨List.mem_of_getElem? (i := 876) (by decide +kernel), by decide +kernel⟩
theorem w_m_Ob_126 : Cond.methodLink "ObservedBlocks" 126 y_Se_receiveReceipt ∈ ob_T := List.mem_filter.mpr ⟨List.mem_of_getElem? (i := 877) (by decide +kernel), by decide +kernel⟩
theorem w_m_Se_224 : Cond.methodLink "ObservedBlocks$Server" 224 y_Pe_isFor ∈ ob_T := List.mem_filter.mpr ⟨List.mem_of_getElem? (i := 881) (by decide +kernel), by decide +kernel⟩
theorem w_m_Law_42 : Cond.methodLink "ObservedBlocksLaw" 42 y_Ob_lose ∈ ob_T := List.mem_filter.mpr ⟨List.mem_of_getElem? (i := 882) (by decide +kernel), by decide +kernel⟩
theorem w_m_Law_46 : Cond.methodLink "ObservedBlocksLaw" 46 y_Ob_repeat ∈ ob_T := List.mem_filter.mpr ⟨List.mem_of_getElem? (i := 886) (by decide +kernel), by decide +kernel⟩
theorem w_m_Ob_132 : Cond.methodLink "ObservedBlocks" 132 y_Li_send ∈ ob_T := List.mem_filter.mpr ⟨List.mem_of_getElem? (i := 890) (by decide +kernel), by decide +kernel⟩
theorem w_m_Law_50 : Cond.methodLink "ObservedBlocksLaw" 50 y_Ob_spoil ∈ ob_T := List.mem_filter.mpr ⟨List.mem_of_getElem? (i := 891) (by decide +kernel), by decide +kernel⟩
theorem w_m_Ob_136 : Cond.methodLink "ObservedBlocks" 136 y_By_has ∈ ob_T := List.mem_filter.mpr ⟨List.mem_of_getElem? (i := 895) (by decide +kernel), by decide +kernel⟩
theorem w_m_Law_55 : Cond.methodLink "ObservedBlocksLaw" 55 y_Ob_waiting ∈ ob_T := List.mem_filter.mpr ⟨List.mem_of_getElem? (i := 896) (by decide +kernel), by decide +kernel⟩
theorem w_m_Law_59 : Cond.methodLink "ObservedBlocksLaw" 59 y_Ob_datagram ∈ ob_T := List.mem_filter.mpr ⟨List.mem_of_getElem? (i := 900) (by decide +kernel), by decide +kernel⟩
theorem w_m_Ob_143 : Cond.methodLink "ObservedBlocks" 143 y_By_byteOrBad ∈ ob_T := List.mem_filter.mpr ⟨List.mem_of_getElem? (i := 904) (by decide +kernel), by decide +kernel⟩
theorem w_m_Law_64 : Cond.methodLink "ObservedBlocksLaw" 64 y_Ob_slot ∈ ob_T := List.mem_filter.mpr ⟨List.mem_of_getElem? (i := 905) (by decide +kernel), by decide +kernel⟩
theorem w_m_Ob_147 : Cond.methodLink "ObservedBlocks" 147 y_Sl_tellOf ∈ ob_T := List.mem_filter.mpr ⟨List.mem_of_getElem? (i := 909) (by decide +kernel), by decide +kernel⟩
theorem w_m_Law_68 : Cond.methodLink "ObservedBlocksLaw" 68 y_Ob_body ∈ ob_T := List.mem_filter.mpr ⟨List.mem_of_getElem? (i := 913) (by decide +kernel), by decide +kernel⟩
theorem w_m_Law_72 : Cond.methodLink "ObservedBlocksLaw" 72 y_Ob_content ∈ ob_T := List.mem_filter.mpr ⟨List.mem_of_getElem? (i := 917) (by decide +kernel), by decide +kernel⟩
theorem w_m_Law_76 : Cond.methodLink "ObservedBlocksLaw" 76 y_Ob_server ∈ ob_T := List.mem_filter.mpr ⟨List.mem_of_getElem? (i := 921) (by decide +kernel), by decide +kernel⟩
theorem w_m_Ob_159 : Cond.methodLink "ObservedBlocks" 159 y_Se_lengthOfParts ∈ ob_T := List.mem_filter.mpr ⟨List.mem_of_getElem? (i := 925) (by decide +kernel), by decide +kernel⟩
theorem w_m_Law_12 : Cond.methodLink "ObservedBlocksLaw" 12 y_Mo_init ∈ ob_T := List.mem_filter.mpr ⟨List.mem_of_getElem? (i := 931) (by decide +kernel), by decide +kernel⟩
theorem w_m_Mo_1 : Cond.methodLink "ObservedBlocksModel" 1 objectInit ∈ ob_T := List.mem_filter.mpr ⟨List.mem_of_getElem? (i := 934) (by decide +kernel), by decide +kernel⟩
theorem w_m_Law_17 : Cond.methodLink "ObservedBlocksLaw" 17 y_Mo_get ∈ ob_T := List.mem_filter.mpr ⟨List.mem_of_getElem? (i := 1120) (by decide +kernel), by decide +kernel⟩
theorem w_m_Mo_297 : Cond.methodLink "ObservedBlocksModel" 297 y_Mo_isSlot ∈ ob_T := List.mem_filter.mpr ⟨List.mem_of_getElem? (i := 1124) (by decide +kernel), by decide +kernel⟩
theorem w_m_Mo_301 : Cond.methodLink "ObservedBlocksModel" 301 y_Mo_use ∈ ob_T := List.mem_filter.mpr ⟨List.mem_of_getElem? (i := 1127) (by decide +kernel), by decide +kernel⟩
theorem w_m_Mo_229 : Cond.methodLink "ObservedBlocksModel" 229 y_Mo_ask ∈ ob_T := List.mem_filter.mpr ⟨List.mem_of_getElem? (i := 1131) (by decide +kernel), by decide +kernel⟩
theorem w_m_Mo_162 : Cond.methodLink "ObservedBlocksModel" 162 y_Mo_begin ∈ ob_T := List.mem_filter.mpr ⟨List.mem_of_getElem? (i := 1135) (by decide +kernel), by decide +kernel⟩
theorem w_m_Mo_144 : Cond.methodLink "ObservedBlocksModel" 144 y_Mo_write ∈ ob_T := List.mem_filter.mpr ⟨List.mem_of_getElem? (i := 1139) (by decide +kernel), by decide +kernel⟩
theorem w_m_Mo_209 : Cond.methodLink "ObservedBlocksModel" 209 y_Mo_option ∈ ob_T := List.mem_filter.mpr ⟨List.mem_of_getElem? (i := 1143) (by decide +kernel), by decide +kernel⟩
theorem w_m_Mo_148 : Cond.methodLink "ObservedBlocksModel" 148 y_Mo_head ∈ ob_T := List.mem_filter.mpr ⟨List.mem_of_getElem? (i := 1147) (by decide +kernel), by decide +kernel⟩
theorem w_m_Mo_212 : Cond.methodLink "ObservedBlocksModel" 212 y_Mo_path ∈ ob_T := List.mem_filter.mpr ⟨List.mem_of_getElem? (i := 1151) (by decide +kernel), by decide +kernel⟩
theorem w_m_Mo_215 : Cond.methodLink "ObservedBlocksModel" 215 y_Mo_more ∈ ob_T := List.mem_filter.mpr ⟨List.mem_of_getElem? (i := 1155) (by decide +kernel), by decide +kernel⟩
theorem w_m_Mo_152 : Cond.methodLink "ObservedBlocksModel" 152 y_Mo_sizeOf ∈ ob_T := List.mem_filter.mpr ⟨List.mem_of_getElem? (i := 1158) (by decide +kernel), by decide +kernel⟩
theorem w_m_Mo_219 : Cond.methodLink "ObservedBlocksModel" 219 y_Mo_within ∈ ob_T := List.mem_filter.mpr ⟨List.mem_of_getElem? (i := 1161) (by decide +kernel), by decide +kernel⟩
theorem w_m_Mo_222 : Cond.methodLink "ObservedBlocksModel" 222 y_Mo_hold ∈ ob_T := List.mem_filter.mpr ⟨List.mem_of_getElem? (i := 1164) (by decide +kernel), by decide +kernel⟩
theorem w_m_Mo_159 : Cond.methodLink "ObservedBlocksModel" 159 y_Mo_send ∈ ob_T := List.mem_filter.mpr ⟨List.mem_of_getElem? (i := 1169) (by decide +kernel), by decide +kernel⟩
theorem w_m_Law_22 : Cond.methodLink "ObservedBlocksLaw" 22 y_Mo_put ∈ ob_T := List.mem_filter.mpr ⟨List.mem_of_getElem? (i := 1173) (by decide +kernel), by decide +kernel⟩
theorem w_m_Law_27 : Cond.methodLink "ObservedBlocksLaw" 27 y_Mo_free ∈ ob_T := List.mem_filter.mpr ⟨List.mem_of_getElem? (i := 1177) (by decide +kernel), by decide +kernel⟩
theorem w_m_Law_32 : Cond.methodLink "ObservedBlocksLaw" 32 y_Mo_change ∈ ob_T := List.mem_filter.mpr ⟨List.mem_of_getElem? (i := 1181) (by decide +kernel), by decide +kernel⟩
theorem w_m_Mo_263 : Cond.methodLink "ObservedBlocksModel" 263 y_Mo_tellAll ∈ ob_T := List.mem_filter.mpr ⟨List.mem_of_getElem? (i := 1185) (by decide +kernel), by decide +kernel⟩
theorem w_m_Mo_251 : Cond.methodLink "ObservedBlocksModel" 251 y_Mo_tell ∈ ob_T := List.mem_filter.mpr ⟨List.mem_of_getElem? (i := 1189) (by decide +kernel), by decide +kernel⟩
theorem w_m_Mo_248 : Cond.methodLink "ObservedBlocksModel" 248 y_Mo_writeContent ∈ ob_T := List.mem_filter.mpr ⟨List.mem_of_getElem? (i := 1193) (by decide +kernel), by decide +kernel⟩
theorem w_m_Law_37 : Cond.methodLink "ObservedBlocksLaw" 37 y_Mo_tick ∈ ob_T := List.mem_filter.mpr ⟨List.mem_of_getElem? (i := 1197) (by decide +kernel), by decide +kernel⟩
theorem w_m_Mo_307 : Cond.methodLink "ObservedBlocksModel" 307 y_Mo_wears ∈ ob_T := List.mem_filter.mpr ⟨List.mem_of_getElem? (i := 1201) (by decide +kernel), by decide +kernel⟩
theorem w_m_Mo_304 : Cond.methodLink "ObservedBlocksModel" 304 y_Mo_sendAgain ∈ ob_T := List.mem_filter.mpr ⟨List.mem_of_getElem? (i := 1205) (by decide +kernel), by decide +kernel⟩
theorem w_m_Mo_260 : Cond.methodLink "ObservedBlocksModel" 260 y_Mo_dropWatcher ∈ ob_T := List.mem_filter.mpr ⟨List.mem_of_getElem? (i := 1209) (by decide +kernel), by decide +kernel⟩
theorem w_m_Law_41 : Cond.methodLink "ObservedBlocksLaw" 41 y_Mo_deliver ∈ ob_T := List.mem_filter.mpr ⟨List.mem_of_getElem? (i := 1213) (by decide +kernel), by decide +kernel⟩
theorem w_m_Mo_310 : Cond.methodLink "ObservedBlocksModel" 310 y_Mo_isDatagram ∈ ob_T := List.mem_filter.mpr ⟨List.mem_of_getElem? (i := 1217) (by decide +kernel), by decide +kernel⟩
theorem w_m_Mo_313 : Cond.methodLink "ObservedBlocksModel" 313 y_Mo_take ∈ ob_T := List.mem_filter.mpr ⟨List.mem_of_getElem? (i := 1221) (by decide +kernel), by decide +kernel⟩
theorem w_m_Mo_316 : Cond.methodLink "ObservedBlocksModel" 316 y_Mo_read ∈ ob_T := List.mem_filter.mpr ⟨List.mem_of_getElem? (i := 1225) (by decide +kernel), by decide +kernel⟩
theorem w_m_Mo_200 : Cond.methodLink "ObservedBlocksModel" 200 y_Mo_readOptions ∈ ob_T := List.mem_filter.mpr ⟨List.mem_of_getElem? (i := 1229) (by decide +kernel), by decide +kernel⟩
theorem w_m_Mo_181 : Cond.methodLink "ObservedBlocksModel" 181 y_Mo_readNumber ∈ ob_T := List.mem_filter.mpr ⟨List.mem_of_getElem? (i := 1233) (by decide +kernel), by decide +kernel⟩
theorem w_m_Mo_320 : Cond.methodLink "ObservedBlocksModel" 320 y_Mo_toClient ∈ ob_T := List.mem_filter.mpr ⟨List.mem_of_getElem? (i := 1237) (by decide +kernel), by decide +kernel⟩
theorem w_m_Mo_236 : Cond.methodLink "ObservedBlocksModel" 236 y_Mo_answered ∈ ob_T := List.mem_filter.mpr ⟨List.mem_of_getElem? (i := 1241) (by decide +kernel), by decide +kernel⟩
theorem w_m_Mo_226 : Cond.methodLink "ObservedBlocksModel" 226 y_Mo_append ∈ ob_T := List.mem_filter.mpr ⟨List.mem_of_getElem? (i := 1245) (by decide +kernel), by decide +kernel⟩
theorem w_m_Mo_239 : Cond.methodLink "ObservedBlocksModel" 239 y_Mo_told ∈ ob_T := List.mem_filter.mpr ⟨List.mem_of_getElem? (i := 1249) (by decide +kernel), by decide +kernel⟩
theorem w_m_Mo_233 : Cond.methodLink "ObservedBlocksModel" 233 y_Mo_bare ∈ ob_T := List.mem_filter.mpr ⟨List.mem_of_getElem? (i := 1253) (by decide +kernel), by decide +kernel⟩
theorem w_m_Mo_323 : Cond.methodLink "ObservedBlocksModel" 323 y_Mo_toServer ∈ ob_T := List.mem_filter.mpr ⟨List.mem_of_getElem? (i := 1257) (by decide +kernel), by decide +kernel⟩
theorem w_m_Mo_269 : Cond.methodLink "ObservedBlocksModel" 269 y_Mo_answerOf ∈ ob_T := List.mem_filter.mpr ⟨List.mem_of_getElem? (i := 1261) (by decide +kernel), by decide +kernel⟩
theorem w_m_Mo_294 : Cond.methodLink "ObservedBlocksModel" 294 y_Mo_handle ∈ ob_T := List.mem_filter.mpr ⟨List.mem_of_getElem? (i := 1265) (by decide +kernel), by decide +kernel⟩
theorem w_m_Mo_281 : Cond.methodLink "ObservedBlocksModel" 281 y_Mo_resource ∈ ob_T := List.mem_filter.mpr ⟨List.mem_of_getElem? (i := 1269) (by decide +kernel), by decide +kernel⟩
theorem w_m_Mo_206 : Cond.methodLink "ObservedBlocksModel" 206 y_Mo_segment ∈ ob_T := List.mem_filter.mpr ⟨List.mem_of_getElem? (i := 1273) (by decide +kernel), by decide +kernel⟩
theorem w_m_Mo_285 : Cond.methodLink "ObservedBlocksModel" 285 y_Mo_answerGet ∈ ob_T := List.mem_filter.mpr ⟨List.mem_of_getElem? (i := 1277) (by decide +kernel), by decide +kernel⟩
theorem w_m_Mo_257 : Cond.methodLink "ObservedBlocksModel" 257 y_Mo_registers ∈ ob_T := List.mem_filter.mpr ⟨List.mem_of_getElem? (i := 1281) (by decide +kernel), by decide +kernel⟩
theorem w_m_Mo_254 : Cond.methodLink "ObservedBlocksModel" 254 y_Mo_watcherOf ∈ ob_T := List.mem_filter.mpr ⟨List.mem_of_getElem? (i := 1285) (by decide +kernel), by decide +kernel⟩
theorem w_m_Mo_288 : Cond.methodLink "ObservedBlocksModel" 288 y_Mo_takePart ∈ ob_T := List.mem_filter.mpr ⟨List.mem_of_getElem? (i := 1289) (by decide +kernel), by decide +kernel⟩
theorem w_m_Mo_291 : Cond.methodLink "ObservedBlocksModel" 291 y_Mo_remember ∈ ob_T := List.mem_filter.mpr ⟨List.mem_of_getElem? (i := 1293) (by decide +kernel), by decide +kernel⟩
theorem w_m_Mo_272 : Cond.methodLink "ObservedBlocksModel" 272 y_Mo_forgetAnswer ∈ ob_T := List.mem_filter.mpr ⟨List.mem_of_getElem? (i := 1297) (by decide +kernel), by decide +kernel⟩
theorem w_m_Law_45 : Cond.methodLink "ObservedBlocksLaw" 45 y_Mo_lose ∈ ob_T := List.mem_filter.mpr ⟨List.mem_of_getElem? (i := 1301) (by decide +kernel), by decide +kernel⟩
theorem w_m_Law_49 : Cond.methodLink "ObservedBlocksLaw" 49 y_Mo_repeat ∈ ob_T := List.mem_filter.mpr ⟨List.mem_of_getElem? (i := 1305) (by decide +kernel), by decide +kernel⟩
theorem w_m_Law_54 : Cond.methodLink "ObservedBlocksLaw" 54 y_Mo_spoil ∈ ob_T := List.mem_filter.mpr ⟨List.mem_of_getElem? (i := 1309) (by decide +kernel), by decide +kernel⟩
theorem w_m_Law_58 : Cond.methodLink "ObservedBlocksLaw" 58 y_Mo_waiting ∈ ob_T := List.mem_filter.mpr ⟨List.mem_of_getElem? (i := 1313) (by decide +kernel), by decide +kernel⟩
theorem w_m_Law_63 : Cond.methodLink "ObservedBlocksLaw" 63 y_Mo_datagram ∈ ob_T := List.mem_filter.mpr ⟨List.mem_of_getElem? (i := 1317) (by decide +kernel), by decide +kernel⟩
theorem w_m_Law_67 : Cond.methodLink "ObservedBlocksLaw" 67 y_Mo_slot ∈ ob_T := List.mem_filter.mpr ⟨List.mem_of_getElem? (i := 1321) (by decide +kernel), by decide +kernel⟩
theorem w_m_Law_71 : Cond.methodLink "ObservedBlocksLaw" 71 y_Mo_body ∈ ob_T := List.mem_filter.mpr ⟨List.mem_of_getElem? (i := 1325) (by decide +kernel), by decide +kernel⟩
theorem w_m_Law_75 : Cond.methodLink "ObservedBlocksLaw" 75 y_Mo_content ∈ ob_T := List.mem_filter.mpr ⟨List.mem_of_getElem? (i := 1329) (by decide +kernel), by decide +kernel⟩
theorem w_m_Law_79 : Cond.methodLink "ObservedBlocksLaw" 79 y_Mo_server ∈ ob_T := List.mem_filter.mpr ⟨List.mem_of_getElem? (i := 1333) (by decide +kernel), by decide +kernel⟩
theorem w_n_Cl_57 : Cond.methodLinkNest "ObservedBlocks$Client" 57 y_Ob_firstSegmentOf "ObservedBlocks" ∈ ob_nest := by decide +kernel
theorem w_n_Cl_65 : Cond.methodLinkNest "ObservedBlocks$Client" 65 y_Ob_secondSegmentOf "ObservedBlocks" ∈ ob_nest := by decide +kernel
theorem w_n_Cl_76 : Cond.methodLinkNest "ObservedBlocks$Client" 76 y_Ob_sizeOf "ObservedBlocks" ∈ ob_nest := by decide +kernel
theorem w_n_Sl_84 : Cond.methodLinkNest "ObservedBlocks$Slot" 84 y_Ob_sizeOf "ObservedBlocks" ∈ ob_nest := by decide +kernel
theorem w_n_Cl_86 : Cond.methodLinkNest "ObservedBlocks$Client" 86 y_Ob_blockOf "ObservedBlocks" ∈ ob_nest := by decide +kernel
theorem w_n_Cl_114 : Cond.methodLinkNest "ObservedBlocks$Client" 114 y_Ob_following "ObservedBlocks" ∈ ob_nest := by decide +kernel
theorem w_n_Se_163 : Cond.methodLinkNest "ObservedBlocks$Server" 163 y_Ob_following "ObservedBlocks" ∈ ob_nest := by decide +kernel
theorem w_n_Se_133 : Cond.methodLinkNest "ObservedBlocks$Server" 133 y_Ob_sizeOf "ObservedBlocks" ∈ ob_nest := by decide +kernel
theorem w_n_Se_179 : Cond.methodLinkNest "ObservedBlocks$Server" 179 y_Ob_blockOf "ObservedBlocks" ∈ ob_nest := by decide +kernel
theorem w_n_Ms_131 : Cond.methodLinkNest "ObservedBlocks$Message" 131 y_Ob_szxOf "ObservedBlocks" ∈ ob_nest := by decide +kernel
theorem w_n_Sl_105 : Cond.methodLinkNest "ObservedBlocks$Slot" 105 y_Ob_numOf "ObservedBlocks" ∈ ob_nest := by decide +kernel
theorem w_n_Sl_108 : Cond.methodLinkNest "ObservedBlocks$Slot" 108 y_Ob_szxOf "ObservedBlocks" ∈ ob_nest := by decide +kernel
theorem w_n_Sl_132 : Cond.methodLinkNest "ObservedBlocks$Slot" 132 y_Ob_hasMore "ObservedBlocks" ∈ ob_nest := by decide +kernel
theorem w_n_Ms_33 : Cond.methodLinkNest "ObservedBlocks$Message" 33 y_Ob_secondSegmentOf "ObservedBlocks" ∈ ob_nest := by decide +kernel
theorem w_n_Ms_46 : Cond.methodLinkNest "ObservedBlocks$Message" 46 y_Ob_firstSegmentOf "ObservedBlocks" ∈ ob_nest := by decide +kernel
theorem w_n_Se_126 : Cond.methodLinkNest "ObservedBlocks$Server" 126 y_Ob_numOf "ObservedBlocks" ∈ ob_nest := by decide +kernel
theorem w_n_Se_130 : Cond.methodLinkNest "ObservedBlocks$Server" 130 y_Ob_szxOf "ObservedBlocks" ∈ ob_nest := by decide +kernel
theorem w_n_Se_146 : Cond.methodLinkNest "ObservedBlocks$Server" 146 y_Ob_hasMore "ObservedBlocks" ∈ ob_nest := by decide +kernel
theorem w_const_ObservedBlocks_163 : Cond.constant "ObservedBlocks" 163 65535 ∈ ob_T := List.mem_filter.mpr ⟨List.mem_of_getElem? (i := 593) (by decide +kernel), by decide +kernel⟩
theorem w_const_Slot_127 : Cond.constant "ObservedBlocks$Slot" 127 65535 ∈ ob_T := List.mem_filter.mpr ⟨List.mem_of_getElem? (i := 797) (by decide +kernel), by decide +kernel⟩
theorem w_const_ObservedBlocksModel_225 : Cond.constant "ObservedBlocksModel" 225 65536 ∈ ob_T := List.mem_filter.mpr ⟨List.mem_of_getElem? (i := 1168) (by decide +kernel), by decide +kernel⟩
theorem w_k_Law_7 : Cond.classLink "ObservedBlocksLaw" 7 "ObservedBlocks" ∈ ob_T := List.mem_filter.mpr ⟨List.mem_of_getElem? (i := 80) (by decide +kernel), by decide +kernel⟩
theorem w_k_Ob_7 : Cond.classLink "ObservedBlocks" 7 "ObservedBlocks$Line" ∈ ob_T := List.mem_filter.mpr ⟨List.mem_of_getElem? (i := 88) (by decide +kernel), by decide +kernel⟩
theorem w_k_Li_9 : Cond.classLink "ObservedBlocks$Line" 9 "ObservedBlocks$Bytes" ∈ ob_T := List.mem_filter.mpr ⟨List.mem_of_getElem? (i := 94) (by decide +kernel), by decide +kernel⟩
theorem w_k_Ob_16 : Cond.classLink "ObservedBlocks" 16 "ObservedBlocks$Client" ∈ ob_T := List.mem_filter.mpr ⟨List.mem_of_getElem? (i := 128) (by decide +kernel), by decide +kernel⟩
theorem w_k_Cl_9 : Cond.classLink "ObservedBlocks$Client" 9 "ObservedBlocks$Slot" ∈ ob_T := List.mem_filter.mpr ⟨List.mem_of_getElem? (i := 134) (by decide +kernel), by decide +kernel⟩
theorem w_k_Sl_9 : Cond.classLink "ObservedBlocks$Slot" 9 "ObservedBlocks$Bytes" ∈ ob_T := List.mem_filter.mpr ⟨List.mem_of_getElem? (i := 141) (by decide +kernel), by decide +kernel⟩
theorem w_k_Sl_20 : Cond.classLink "ObservedBlocks$Slot" 20 "ObservedBlocks$Pending" ∈ ob_T := List.mem_filter.mpr ⟨List.mem_of_getElem? (i := 143) (by decide +kernel), by decide +kernel⟩
theorem w_k_Pe_9 : Cond.classLink "ObservedBlocks$Pending" 9 "ObservedBlocks$Bytes" ∈ ob_T := List.mem_filter.mpr ⟨List.mem_of_getElem? (i := 149) (by decide +kernel), by decide +kernel⟩
theorem w_k_Cl_24 : Cond.classLink "ObservedBlocks$Client" 24 "ObservedBlocks$Writer" ∈ ob_T := List.mem_filter.mpr ⟨List.mem_of_getElem? (i := 226) (by decide +kernel), by decide +kernel⟩
theorem w_k_Wr_9 : Cond.classLink "ObservedBlocks$Writer" 9 "ObservedBlocks$Bytes" ∈ ob_T := List.mem_filter.mpr ⟨List.mem_of_getElem? (i := 232) (by decide +kernel), by decide +kernel⟩
theorem w_k_Ob_25 : Cond.classLink "ObservedBlocks" 25 "ObservedBlocks$Server" ∈ ob_T := List.mem_filter.mpr ⟨List.mem_of_getElem? (i := 257) (by decide +kernel), by decide +kernel⟩
theorem w_k_Se_9 : Cond.classLink "ObservedBlocks$Server" 9 "ObservedBlocks$Bytes" ∈ ob_T := List.mem_filter.mpr ⟨List.mem_of_getElem? (i := 263) (by decide +kernel), by decide +kernel⟩
theorem w_k_Se_23 : Cond.classLink "ObservedBlocks$Server" 23 "ObservedBlocks$Watcher" ∈ ob_T := List.mem_filter.mpr ⟨List.mem_of_getElem? (i := 265) (by decide +kernel), by decide +kernel⟩
theorem w_k_Wa_7 : Cond.classLink "ObservedBlocks$Watcher" 7 "ObservedBlocks$Pending" ∈ ob_T := List.mem_filter.mpr ⟨List.mem_of_getElem? (i := 272) (by decide +kernel), by decide +kernel⟩
theorem w_k_Se_30 : Cond.classLink "ObservedBlocks$Server" 30 "ObservedBlocks$Memory" ∈ ob_T := List.mem_filter.mpr ⟨List.mem_of_getElem? (i := 295) (by decide +kernel), by decide +kernel⟩
theorem w_k_Me_9 : Cond.classLink "ObservedBlocks$Memory" 9 "ObservedBlocks$Bytes" ∈ ob_T := List.mem_filter.mpr ⟨List.mem_of_getElem? (i := 301) (by decide +kernel), by decide +kernel⟩
theorem w_k_Se_41 : Cond.classLink "ObservedBlocks$Server" 41 "ObservedBlocks$Writer" ∈ ob_T := List.mem_filter.mpr ⟨List.mem_of_getElem? (i := 317) (by decide +kernel), by decide +kernel⟩
theorem w_k_Ob_32 : Cond.classLink "ObservedBlocks" 32 "ObservedBlocks$Message" ∈ ob_T := List.mem_filter.mpr ⟨List.mem_of_getElem? (i := 354) (by decide +kernel), by decide +kernel⟩
theorem w_k_Ms_9 : Cond.classLink "ObservedBlocks$Message" 9 "ObservedBlocks$Bytes" ∈ ob_T := List.mem_filter.mpr ⟨List.mem_of_getElem? (i := 360) (by decide +kernel), by decide +kernel⟩
theorem w_k_Law_10 : Cond.classLink "ObservedBlocksLaw" 10 "ObservedBlocksModel" ∈ ob_T := List.mem_filter.mpr ⟨List.mem_of_getElem? (i := 929) (by decide +kernel), by decide +kernel⟩
theorem w_q_10 : Cond.instantiable "ObservedBlocks" 5 ∈ ob_T := List.mem_filter.mpr ⟨List.mem_of_getElem? (i := 81) (by decide +kernel), by decide +kernel⟩
theorem w_q_1 : Cond.instantiable "ObservedBlocks$Line" 3 ∈ ob_T := List.mem_filter.mpr ⟨List.mem_of_getElem? (i := 89) (by decide +kernel), by decide +kernel⟩
theorem w_q_0 : Cond.instantiable "ObservedBlocks$Bytes" 2 ∈ ob_T := List.mem_filter.mpr ⟨List.mem_of_getElem? (i := 96) (by decide +kernel), by decide +kernel⟩
theorem w_q_7 : Cond.instantiable "ObservedBlocks$Client" 4 ∈ ob_T := List.mem_filter.mpr ⟨List.mem_of_getElem? (i := 129) (by decide +kernel), by decide +kernel⟩
theorem w_q_6 : Cond.instantiable "ObservedBlocks$Slot" 14 ∈ ob_T := List.mem_filter.mpr ⟨List.mem_of_getElem? (i := 136) (by decide +kernel), by decide +kernel⟩
theorem w_q_3 : Cond.instantiable "ObservedBlocks$Pending" 6 ∈ ob_T := List.mem_filter.mpr ⟨List.mem_of_getElem? (i := 144) (by decide +kernel), by decide +kernel⟩
theorem w_q_4 : Cond.instantiable "ObservedBlocks$Writer" 2 ∈ ob_T := List.mem_filter.mpr ⟨List.mem_of_getElem? (i := 227) (by decide +kernel), by decide +kernel⟩
theorem w_q_9 : Cond.instantiable "ObservedBlocks$Server" 10 ∈ ob_T := List.mem_filter.mpr ⟨List.mem_of_getElem? (i := 258) (by decide +kernel), by decide +kernel⟩
theorem w_q_5 : Cond.instantiable "ObservedBlocks$Watcher" 5 ∈ ob_T := List.mem_filter.mpr ⟨List.mem_of_getElem? (i := 267) (by decide +kernel), by decide +kernel⟩
theorem w_q_2 : Cond.instantiable "ObservedBlocks$Memory" 4 ∈ ob_T := List.mem_filter.mpr ⟨List.mem_of_getElem? (i := 296) (by decide +kernel), by decide +kernel⟩
theorem w_q_8 : Cond.instantiable "ObservedBlocks$Message" 15 ∈ ob_T := List.mem_filter.mpr ⟨List.mem_of_getElem? (i := 355) (by decide +kernel), by decide +kernel⟩
theorem w_q_11 : Cond.instantiable "ObservedBlocksModel" 61 ∈ ob_T := List.mem_filter.mpr ⟨List.mem_of_getElem? (i := 930) (by decide +kernel), by decide +kernel⟩
theorem ob_w_arI : Cond.arrayClass .int ∈ ob_T := List.mem_filter.mpr ⟨List.mem_of_getElem? (i := 114) (by decide +kernel), by decide +kernel⟩
theorem ob_w_arZ : Cond.arrayClass .boolean ∈ ob_T := List.mem_filter.mpr ⟨List.mem_of_getElem? (i := 1119) (by decide +kernel), by decide +kernel⟩
theorem ob_w_ois : Cond.instanceMethod objectInit ∈ ob_T := List.mem_filter.mpr ⟨List.mem_of_getElem? (i := 86) (by decide +kernel), by decide +kernel⟩
theorem ob_w_oic : Cond.code objectInit ⟨#[0xb1]⟩ 1 none ∈ ob_T := List.mem_filter.mpr ⟨List.mem_of_getElem? (i := 87) (by decide +kernel), by decide +kernel⟩
theorem ob_w_acn : Cond.native arraycopyName ∈ ob_T := List.mem_filter.mpr ⟨List.mem_of_getElem? (i := 581) (by decide +kernel), by decide +kernel⟩
theorem ob_w_acs : Cond.static arraycopyName ∈ ob_T := List.mem_filter.mpr ⟨List.mem_of_getElem? (i := 580) (by decide +kernel), by decide +kernel⟩
theorem ob_w_aci : Cond.initialized "java/lang/System" ∈ ob_T := List.mem_filter.mpr ⟨List.mem_of_getElem? (i := 79) (by decide +kernel), by decide +kernel⟩
theorem ob_w_mns : Cond.static Lib.Math.min.name ∈ ob_T := List.mem_filter.mpr ⟨List.mem_of_getElem? (i := 485) (by decide +kernel), by decide +kernel⟩
theorem ob_w_mni : Cond.initialized "java/lang/Math" ∈ ob_T := List.mem_filter.mpr ⟨List.mem_of_getElem? (i := 74) (by decide +kernel), by decide +kernel⟩
theorem ob_w_mnc : Cond.code Lib.Math.min.name Lib.Math.min.code 2 (some .int) ∈ ob_T := List.mem_filter.mpr ⟨List.mem_of_getElem? (i := 486) (by decide +kernel), by decide +kernel⟩
theorem w_i_By : Cond.initialized "ObservedBlocks$Bytes" ∈ ob_T := List.mem_filter.mpr ⟨List.mem_of_getElem? (i := 64) (by decide +kernel), by decide +kernel⟩
theorem w_i_Li : Cond.initialized "ObservedBlocks$Line" ∈ ob_T := List.mem_filter.mpr ⟨List.mem_of_getElem? (i := 63) (by decide +kernel), by decide +kernel⟩
theorem w_i_Me : Cond.initialized "ObservedBlocks$Memory" ∈ ob_T := List.mem_filter.mpr ⟨List.mem_of_getElem? (i := 71) (by decide +kernel), by decide +kernel⟩
theorem w_i_Pe : Cond.initialized "ObservedBlocks$Pending" ∈ ob_T := List.mem_filter.mpr ⟨List.mem_of_getElem? (i := 67) (by decide +kernel), by decide +kernel⟩
theorem w_i_Wr : Cond.initialized "ObservedBlocks$Writer" ∈ ob_T := List.mem_filter.mpr ⟨List.mem_of_getElem? (i := 68) (by decide +kernel), by decide +kernel⟩
theorem w_i_Wa : Cond.initialized "ObservedBlocks$Watcher" ∈ ob_T := List.mem_filter.mpr ⟨List.mem_of_getElem? (i := 70) (by decide +kernel), by decide +kernel⟩
theorem w_i_Sl : Cond.initialized "ObservedBlocks$Slot" ∈ ob_T := List.mem_filter.mpr ⟨List.mem_of_getElem? (i := 66) (by decide +kernel), by decide +kernel⟩
theorem w_i_Cl : Cond.initialized "ObservedBlocks$Client" ∈ ob_T := List.mem_filter.mpr ⟨List.mem_of_getElem? (i := 65) (by decide +kernel), by decide +kernel⟩
theorem w_i_Ms : Cond.initialized "ObservedBlocks$Message" ∈ ob_T := List.mem_filter.mpr ⟨List.mem_of_getElem? (i := 72) (by decide +kernel), by decide +kernel⟩
theorem w_i_Se : Cond.initialized "ObservedBlocks$Server" ∈ ob_T := List.mem_filter.mpr ⟨List.mem_of_getElem? (i := 69) (by decide +kernel), by decide +kernel⟩
theorem w_i_Ob : Cond.initialized "ObservedBlocks" ∈ ob_T := List.mem_filter.mpr ⟨List.mem_of_getElem? (i := 62) (by decide +kernel), by decide +kernel⟩
theorem w_i_Mo : Cond.initialized "ObservedBlocksModel" ∈ ob_T := List.mem_filter.mpr ⟨List.mem_of_getElem? (i := 73) (by decide +kernel), by decide +kernel⟩
theorem w_i_Str : Cond.initialized "java/lang/String" ∈ ob_T := List.mem_filter.mpr ⟨List.mem_of_getElem? (i := 75) (by decide +kernel), by decide +kernel⟩
theorem w_c_Ob_init : Cond.code y_Ob_init cb_Ob_init 1 none ∈ ob_T := List.mem_filter.mpr ⟨List.mem_of_getElem? (i := 84) (by decide +kernel), by decide +kernel⟩
theorem w_x_Ob_init : Cond.instanceMethod y_Ob_init ∈ ob_T := List.mem_filter.mpr ⟨List.mem_of_getElem? (i := 83) (by decide +kernel), by decide +kernel⟩
theorem w_c_Ob_get : Cond.code y_Ob_get cb_Ob_get 6 (some .int) ∈ ob_T := List.mem_filter.mpr ⟨List.mem_of_getElem? (i := 444) (by decide +kernel), by decide +kernel⟩
theorem w_x_Ob_get : Cond.instanceMethod y_Ob_get ∈ ob_T := List.mem_filter.mpr ⟨List.mem_of_getElem? (i := 442) (by decide +kernel), by decide +kernel⟩
theorem w_e_Ob_get : Cond.selects "ObservedBlocks" y_Ob_get y_Ob_get ∈ ob_T := List.mem_filter.mpr ⟨List.mem_of_getElem? (i := 443) (by decide +kernel), by decide +kernel⟩
theorem w_c_Ob_put : Cond.code y_Ob_put cb_Ob_put 7 (some .int) ∈ ob_T := List.mem_filter.mpr ⟨List.mem_of_getElem? (i := 603) (by decide +kernel), by decide +kernel⟩
theorem w_x_Ob_put : Cond.instanceMethod y_Ob_put ∈ ob_T := List.mem_filter.mpr ⟨List.mem_of_getElem? (i := 601) (by decide +kernel), by decide +kernel⟩
theorem w_e_Ob_put : Cond.selects "ObservedBlocks" y_Ob_put y_Ob_put ∈ ob_T := List.mem_filter.mpr ⟨List.mem_of_getElem? (i := 602) (by decide +kernel), by decide +kernel⟩
theorem w_c_Ob_free : Cond.code y_Ob_free cb_Ob_free 2 (some .int) ∈ ob_T := List.mem_filter.mpr ⟨List.mem_of_getElem? (i := 613) (by decide +kernel), by decide +kernel⟩
theorem w_x_Ob_free : Cond.instanceMethod y_Ob_free ∈ ob_T := List.mem_filter.mpr ⟨List.mem_of_getElem? (i := 611) (by decide +kernel), by decide +kernel⟩
theorem w_e_Ob_free : Cond.selects "ObservedBlocks" y_Ob_free y_Ob_free ∈ ob_T := List.mem_filter.mpr ⟨List.mem_of_getElem? (i := 612) (by decide +kernel), by decide +kernel⟩
theorem w_c_Ob_change : Cond.code y_Ob_change cb_Ob_change 4 (some .int) ∈ ob_T := List.mem_filter.mpr ⟨List.mem_of_getElem? (i := 625) (by decide +kernel), by decide +kernel⟩
theorem w_x_Ob_change : Cond.instanceMethod y_Ob_change ∈ ob_T := List.mem_filter.mpr ⟨List.mem_of_getElem? (i := 623) (by decide +kernel), by decide +kernel⟩
theorem w_e_Ob_change : Cond.selects "ObservedBlocks" y_Ob_change y_Ob_change ∈ ob_T := List.mem_filter.mpr ⟨List.mem_of_getElem? (i := 624) (by decide +kernel), by decide +kernel⟩
theorem w_c_Ob_tick : Cond.code y_Ob_tick cb_Ob_tick 1 (some .int) ∈ ob_T := List.mem_filter.mpr ⟨List.mem_of_getElem? (i := 653) (by decide +kernel), by decide +kernel⟩
theorem w_x_Ob_tick : Cond.instanceMethod y_Ob_tick ∈ ob_T := List.mem_filter.mpr ⟨List.mem_of_getElem? (i := 651) (by decide +kernel), by decide +kernel⟩
theorem w_e_Ob_tick : Cond.selects "ObservedBlocks" y_Ob_tick y_Ob_tick ∈ ob_T := List.mem_filter.mpr ⟨List.mem_of_getElem? (i := 652) (by decide +kernel), by decide +kernel⟩
theorem w_c_Ob_deliver : Cond.code y_Ob_deliver cb_Ob_deliver 4 (some .int) ∈ ob_T := List.mem_filter.mpr ⟨List.mem_of_getElem? (i := 675) (by decide +kernel), by decide +kernel⟩
theorem w_x_Ob_deliver : Cond.instanceMethod y_Ob_deliver ∈ ob_T := List.mem_filter.mpr ⟨List.mem_of_getElem? (i := 673) (by decide +kernel), by decide +kernel⟩
theorem w_e_Ob_deliver : Cond.selects "ObservedBlocks" y_Ob_deliver y_Ob_deliver ∈ ob_T := List.mem_filter.mpr ⟨List.mem_of_getElem? (i := 674) (by decide +kernel), by decide +kernel⟩
theorem w_c_Ob_lose : Cond.code y_Ob_lose cb_Ob_lose 2 (some .int) ∈ ob_T := List.mem_filter.mpr ⟨List.mem_of_getElem? (i := 885) (by decide +kernel), by decide +kernel⟩
theorem w_x_Ob_lose : Cond.instanceMethod y_Ob_lose ∈ ob_T := List.mem_filter.mpr ⟨List.mem_of_getElem? (i := 883) (by decide +kernel), by decide +kernel⟩
theorem w_e_Ob_lose : Cond.selects "ObservedBlocks" y_Ob_lose y_Ob_lose ∈ ob_T := List.mem_filter.mpr ⟨List.mem_of_getElem? (i := 884) (by decide +kernel), by decide +kernel⟩
theorem w_c_Ob_repeat : Cond.code y_Ob_repeat cb_Ob_repeat 2 (some .int) ∈ ob_T := List.mem_filter.mpr ⟨List.mem_of_getElem? (i := 889) (by decide +kernel), by decide +kernel⟩
theorem w_x_Ob_repeat : Cond.instanceMethod y_Ob_repeat ∈ ob_T := List.mem_filter.mpr ⟨List.mem_of_getElem? (i := 887) (by decide +kernel), by decide +kernel⟩
theorem w_e_Ob_repeat : Cond.selects "ObservedBlocks" y_Ob_repeat y_Ob_repeat ∈ ob_T := List.mem_filter.mpr ⟨List.mem_of_getElem? (i := 888) (by decide +kernel), by decide +kernel⟩
theorem w_c_Ob_spoil : Cond.code y_Ob_spoil cb_Ob_spoil 4 (some .boolean) ∈ ob_T := List.mem_filter.mpr ⟨List.mem_of_getElem? (i := 894) (by decide +kernel), by decide +kernel⟩
theorem w_x_Ob_spoil : Cond.instanceMethod y_Ob_spoil ∈ ob_T := List.mem_filter.mpr ⟨List.mem_of_getElem? (i := 892) (by decide +kernel), by decide +kernel⟩
theorem w_e_Ob_spoil : Cond.selects "ObservedBlocks" y_Ob_spoil y_Ob_spoil ∈ ob_T := List.mem_filter.mpr ⟨List.mem_of_getElem? (i := 893) (by decide +kernel), by decide +kernel⟩
theorem w_c_Ob_waiting : Cond.code y_Ob_waiting cb_Ob_waiting 1 (some .int) ∈ ob_T := List.mem_filter.mpr ⟨List.mem_of_getElem? (i := 899) (by decide +kernel), by decide +kernel⟩
theorem w_x_Ob_waiting : Cond.instanceMethod y_Ob_waiting ∈ ob_T := List.mem_filter.mpr ⟨List.mem_of_getElem? (i := 897) (by decide +kernel), by decide +kernel⟩
theorem w_e_Ob_waiting : Cond.selects "ObservedBlocks" y_Ob_waiting y_Ob_waiting ∈ ob_T := List.mem_filter.mpr ⟨List.mem_of_getElem? (i := 898) (by decide +kernel), by decide +kernel⟩
theorem w_c_Ob_datagram : Cond.code y_Ob_datagram cb_Ob_datagram 3 (some .int) ∈ ob_T := List.mem_filter.mpr ⟨List.mem_of_getElem? (i := 903) (by decide +kernel), by decide +kernel⟩
theorem w_x_Ob_datagram : Cond.instanceMethod y_Ob_datagram ∈ ob_T := List.mem_filter.mpr ⟨List.mem_of_getElem? (i := 901) (by decide +kernel), by decide +kernel⟩
theorem w_e_Ob_datagram : Cond.selects "ObservedBlocks" y_Ob_datagram y_Ob_datagram ∈ ob_T := List.mem_filter.mpr ⟨List.mem_of_getElem? (i := 902) (by decide +kernel), by decide +kernel⟩
theorem w_c_Ob_slot : Cond.code y_Ob_slot cb_Ob_slot 3 (some .int) ∈ ob_T := List.mem_filter.mpr ⟨List.mem_of_getElem? (i := 908) (by decide +kernel), by decide +kernel⟩
theorem w_x_Ob_slot : Cond.instanceMethod y_Ob_slot ∈ ob_T := List.mem_filter.mpr ⟨List.mem_of_getElem? (i := 906) (by decide +kernel), by decide +kernel⟩
theorem w_e_Ob_slot : Cond.selects "ObservedBlocks" y_Ob_slot y_Ob_slot ∈ ob_T := List.mem_filter.mpr ⟨List.mem_of_getElem? (i := 907) (by decide +kernel), by decide +kernel⟩
theorem w_c_Ob_body : Cond.code y_Ob_body cb_Ob_body 3 (some .int) ∈ ob_T := List.mem_filter.mpr ⟨List.mem_of_getElem? (i := 916) (by decide +kernel), by decide +kernel⟩
theorem w_x_Ob_body : Cond.instanceMethod y_Ob_body ∈ ob_T := List.mem_filter.mpr ⟨List.mem_of_getElem? (i := 914) (by decide +kernel), by decide +kernel⟩
theorem w_e_Ob_body : Cond.selects "ObservedBlocks" y_Ob_body y_Ob_body ∈ ob_T := List.mem_filter.mpr ⟨List.mem_of_getElem? (i := 915) (by decide +kernel), by decide +kernel⟩
theorem w_c_Ob_content : Cond.code y_Ob_content cb_Ob_content 4 (some .int) ∈ ob_T := List.mem_filter.mpr ⟨List.mem_of_getElem? (i := 920) (by decide +kernel), by decide +kernel⟩
theorem w_x_Ob_content : Cond.instanceMethod y_Ob_content ∈ ob_T := List.mem_filter.mpr ⟨List.mem_of_getElem? (i := 918) (by decide +kernel), by decide +kernel⟩
theorem w_e_Ob_content : Cond.selects "ObservedBlocks" y_Ob_content y_Ob_content ∈ ob_T := List.mem_filter.mpr ⟨List.mem_of_getElem? (i := 919) (by decide +kernel), by decide +kernel⟩
theorem w_c_Ob_server : Cond.code y_Ob_server cb_Ob_server 2 (some .int) ∈ ob_T := List.mem_filter.mpr ⟨List.mem_of_getElem? (i := 924) (by decide +kernel), by decide +kernel⟩
theorem w_x_Ob_server : Cond.instanceMethod y_Ob_server ∈ ob_T := List.mem_filter.mpr ⟨List.mem_of_getElem? (i := 922) (by decide +kernel), by decide +kernel⟩
theorem w_e_Ob_server : Cond.selects "ObservedBlocks" y_Ob_server y_Ob_server ∈ ob_T := List.mem_filter.mpr ⟨List.mem_of_getElem? (i := 923) (by decide +kernel), by decide +kernel⟩
theorem w_c_Ob_isWithin : Cond.code y_Ob_isWithin cb_Ob_isWithin 2 (some .boolean) ∈ ob_T := List.mem_filter.mpr ⟨List.mem_of_getElem? (i := 450) (by decide +kernel), by decide +kernel⟩
theorem w_s_Ob_isWithin : Cond.static y_Ob_isWithin ∈ ob_T := List.mem_filter.mpr ⟨List.mem_of_getElem? (i := 449) (by decide +kernel), by decide +kernel⟩
theorem w_c_Ob_isAskable : Cond.code y_Ob_isAskable cb_Ob_isAskable 3 (some .boolean) ∈ ob_T := List.mem_filter.mpr ⟨List.mem_of_getElem? (i := 447) (by decide +kernel), by decide +kernel⟩
theorem w_s_Ob_isAskable : Cond.static y_Ob_isAskable ∈ ob_T := List.mem_filter.mpr ⟨List.mem_of_getElem? (i := 446) (by decide +kernel), by decide +kernel⟩
theorem w_c_Ob_sizeOf : Cond.code y_Ob_sizeOf cb_Ob_sizeOf 1 (some .int) ∈ ob_T := List.mem_filter.mpr ⟨List.mem_of_getElem? (i := 557) (by decide +kernel), by decide +kernel⟩
theorem w_s_Ob_sizeOf : Cond.static y_Ob_sizeOf ∈ ob_T := List.mem_filter.mpr ⟨List.mem_of_getElem? (i := 556) (by decide +kernel), by decide +kernel⟩
theorem w_c_Ob_blockOf : Cond.code y_Ob_blockOf cb_Ob_blockOf 3 (some .int) ∈ ob_T := List.mem_filter.mpr ⟨List.mem_of_getElem? (i := 565) (by decide +kernel), by decide +kernel⟩
theorem w_s_Ob_blockOf : Cond.static y_Ob_blockOf ∈ ob_T := List.mem_filter.mpr ⟨List.mem_of_getElem? (i := 564) (by decide +kernel), by decide +kernel⟩
theorem w_c_Ob_numOf : Cond.code y_Ob_numOf cb_Ob_numOf 1 (some .int) ∈ ob_T := List.mem_filter.mpr ⟨List.mem_of_getElem? (i := 761) (by decide +kernel), by decide +kernel⟩
theorem w_s_Ob_numOf : Cond.static y_Ob_numOf ∈ ob_T := List.mem_filter.mpr ⟨List.mem_of_getElem? (i := 760) (by decide +kernel), by decide +kernel⟩
theorem w_c_Ob_hasMore : Cond.code y_Ob_hasMore cb_Ob_hasMore 1 (some .boolean) ∈ ob_T := List.mem_filter.mpr ⟨List.mem_of_getElem? (i := 778) (by decide +kernel), by decide +kernel⟩
theorem w_s_Ob_hasMore : Cond.static y_Ob_hasMore ∈ ob_T := List.mem_filter.mpr ⟨List.mem_of_getElem? (i := 777) (by decide +kernel), by decide +kernel⟩
theorem w_c_Ob_szxOf : Cond.code y_Ob_szxOf cb_Ob_szxOf 1 (some .int) ∈ ob_T := List.mem_filter.mpr ⟨List.mem_of_getElem? (i := 725) (by decide +kernel), by decide +kernel⟩
theorem w_s_Ob_szxOf : Cond.static y_Ob_szxOf ∈ ob_T := List.mem_filter.mpr ⟨List.mem_of_getElem? (i := 724) (by decide +kernel), by decide +kernel⟩
theorem w_c_Ob_following : Cond.code y_Ob_following cb_Ob_following 1 (some .int) ∈ ob_T := List.mem_filter.mpr ⟨List.mem_of_getElem? (i := 592) (by decide +kernel), by decide +kernel⟩
theorem w_s_Ob_following : Cond.static y_Ob_following ∈ ob_T := List.mem_filter.mpr ⟨List.mem_of_getElem? (i := 591) (by decide +kernel), by decide +kernel⟩
theorem w_c_Ob_firstSegmentOf : Cond.code y_Ob_firstSegmentOf cb_Ob_firstSegmentOf 1 (some (.object "java/lang/String")) ∈ ob_T := List.mem_filter.mpr ⟨List.mem_of_getElem? (i := 489) (by decide +kernel), by decide +kernel⟩
theorem w_s_Ob_firstSegmentOf : Cond.static y_Ob_firstSegmentOf ∈ ob_T := List.mem_filter.mpr ⟨List.mem_of_getElem? (i := 488) (by decide +kernel), by decide +kernel⟩
theorem w_c_Ob_secondSegmentOf : Cond.code y_Ob_secondSegmentOf cb_Ob_secondSegmentOf 1 (some (.object "java/lang/String")) ∈ ob_T := List.mem_filter.mpr ⟨List.mem_of_getElem? (i := 547) (by decide +kernel), by decide +kernel⟩
theorem w_s_Ob_secondSegmentOf : Cond.static y_Ob_secondSegmentOf ∈ ob_T := List.mem_filter.mpr ⟨List.mem_of_getElem? (i := 546) (by decide +kernel), by decide +kernel⟩
theorem w_c_Mo_init : Cond.code y_Mo_init cb_Mo_init 1 none ∈ ob_T := List.mem_filter.mpr ⟨List.mem_of_getElem? (i := 933) (by decide +kernel), by decide +kernel⟩
theorem w_x_Mo_init : Cond.instanceMethod y_Mo_init ∈ ob_T := List.mem_filter.mpr ⟨List.mem_of_getElem? (i := 932) (by decide +kernel), by decide +kernel⟩
theorem w_c_Mo_write : Cond.code y_Mo_write cb_Mo_write 2 none ∈ ob_T := List.mem_filter.mpr ⟨List.mem_of_getElem? (i := 1142) (by decide +kernel), by decide +kernel⟩
theorem w_x_Mo_write : Cond.instanceMethod y_Mo_write ∈ ob_T := List.mem_filter.mpr ⟨List.mem_of_getElem? (i := 1141) (by decide +kernel), by decide +kernel⟩
theorem w_e_Mo_write : Cond.selects "ObservedBlocksModel" y_Mo_write y_Mo_write ∈ ob_T := List.mem_filter.mpr ⟨List.mem_of_getElem? (i := 28) (by decide +kernel), by decide +kernel⟩
theorem w_c_Mo_begin : Cond.code y_Mo_begin cb_Mo_begin 4 none ∈ ob_T := List.mem_filter.mpr ⟨List.mem_of_getElem? (i := 1138) (by decide +kernel), by decide +kernel⟩
theorem w_x_Mo_begin : Cond.instanceMethod y_Mo_begin ∈ ob_T := List.mem_filter.mpr ⟨List.mem_of_getElem? (i := 1137) (by decide +kernel), by decide +kernel⟩
theorem w_e_Mo_begin : Cond.selects "ObservedBlocksModel" y_Mo_begin y_Mo_begin ∈ ob_T := List.mem_filter.mpr ⟨List.mem_of_getElem? (i := 27) (by decide +kernel), by decide +kernel⟩
theorem w_c_Mo_head : Cond.code y_Mo_head cb_Mo_head 4 none ∈ ob_T := List.mem_filter.mpr ⟨List.mem_of_getElem? (i := 1150) (by decide +kernel), by decide +kernel⟩
theorem w_x_Mo_head : Cond.instanceMethod y_Mo_head ∈ ob_T := List.mem_filter.mpr ⟨List.mem_of_getElem? (i := 1149) (by decide +kernel), by decide +kernel⟩
theorem w_e_Mo_head : Cond.selects "ObservedBlocksModel" y_Mo_head y_Mo_head ∈ ob_T := List.mem_filter.mpr ⟨List.mem_of_getElem? (i := 30) (by decide +kernel), by decide +kernel⟩
theorem w_c_Mo_option : Cond.code y_Mo_option cb_Mo_option 3 none ∈ ob_T := List.mem_filter.mpr ⟨List.mem_of_getElem? (i := 1146) (by decide +kernel), by decide +kernel⟩
theorem w_x_Mo_option : Cond.instanceMethod y_Mo_option ∈ ob_T := List.mem_filter.mpr ⟨List.mem_of_getElem? (i := 1145) (by decide +kernel), by decide +kernel⟩
theorem w_e_Mo_option : Cond.selects "ObservedBlocksModel" y_Mo_option y_Mo_option ∈ ob_T := List.mem_filter.mpr ⟨List.mem_of_getElem? (i := 29) (by decide +kernel), by decide +kernel⟩
theorem w_c_Mo_path : Cond.code y_Mo_path cb_Mo_path 4 none ∈ ob_T := List.mem_filter.mpr ⟨List.mem_of_getElem? (i := 1154) (by decide +kernel), by decide +kernel⟩
theorem w_x_Mo_path : Cond.instanceMethod y_Mo_path ∈ ob_T := List.mem_filter.mpr ⟨List.mem_of_getElem? (i := 1153) (by decide +kernel), by decide +kernel⟩
theorem w_e_Mo_path : Cond.selects "ObservedBlocksModel" y_Mo_path y_Mo_path ∈ ob_T := List.mem_filter.mpr ⟨List.mem_of_getElem? (i := 31) (by decide +kernel), by decide +kernel⟩
theorem w_c_Mo_sizeOf : Cond.code y_Mo_sizeOf cb_Mo_sizeOf 1 (some .int) ∈ ob_T := List.mem_filter.mpr ⟨List.mem_of_getElem? (i := 1160) (by decide +kernel), by decide +kernel⟩
theorem w_s_Mo_sizeOf : Cond.static y_Mo_sizeOf ∈ ob_T := List.mem_filter.mpr ⟨List.mem_of_getElem? (i := 1159) (by decide +kernel), by decide +kernel⟩
theorem w_c_Mo_within : Cond.code y_Mo_within cb_Mo_within 4 (some .int) ∈ ob_T := List.mem_filter.mpr ⟨List.mem_of_getElem? (i := 1163) (by decide +kernel), by decide +kernel⟩
theorem w_s_Mo_within : Cond.static y_Mo_within ∈ ob_T := List.mem_filter.mpr ⟨List.mem_of_getElem? (i := 1162) (by decide +kernel), by decide +kernel⟩
theorem w_c_Mo_more : Cond.code y_Mo_more cb_Mo_more 3 (some .int) ∈ ob_T := List.mem_filter.mpr ⟨List.mem_of_getElem? (i := 1157) (by decide +kernel), by decide +kernel⟩
theorem w_s_Mo_more : Cond.static y_Mo_more ∈ ob_T := List.mem_filter.mpr ⟨List.mem_of_getElem? (i := 1156) (by decide +kernel), by decide +kernel⟩
theorem w_c_Mo_send : Cond.code y_Mo_send cb_Mo_send 3 none ∈ ob_T := List.mem_filter.mpr ⟨List.mem_of_getElem? (i := 1172) (by decide +kernel), by decide +kernel⟩
theorem w_x_Mo_send : Cond.instanceMethod y_Mo_send ∈ ob_T := List.mem_filter.mpr ⟨List.mem_of_getElem? (i := 1171) (by decide +kernel), by decide +kernel⟩
theorem w_e_Mo_send : Cond.selects "ObservedBlocksModel" y_Mo_send y_Mo_send ∈ ob_T := List.mem_filter.mpr ⟨List.mem_of_getElem? (i := 33) (by decide +kernel), by decide +kernel⟩
theorem w_c_Mo_hold : Cond.code y_Mo_hold cb_Mo_hold 4 none ∈ ob_T := List.mem_filter.mpr ⟨List.mem_of_getElem? (i := 1167) (by decide +kernel), by decide +kernel⟩
theorem w_x_Mo_hold : Cond.instanceMethod y_Mo_hold ∈ ob_T := List.mem_filter.mpr ⟨List.mem_of_getElem? (i := 1166) (by decide +kernel), by decide +kernel⟩
theorem w_e_Mo_hold : Cond.selects "ObservedBlocksModel" y_Mo_hold y_Mo_hold ∈ ob_T := List.mem_filter.mpr ⟨List.mem_of_getElem? (i := 32) (by decide +kernel), by decide +kernel⟩
theorem w_c_Mo_sendAgain : Cond.code y_Mo_sendAgain cb_Mo_sendAgain 3 none ∈ ob_T := List.mem_filter.mpr ⟨List.mem_of_getElem? (i := 1208) (by decide +kernel), by decide +kernel⟩
theorem w_x_Mo_sendAgain : Cond.instanceMethod y_Mo_sendAgain ∈ ob_T := List.mem_filter.mpr ⟨List.mem_of_getElem? (i := 1207) (by decide +kernel), by decide +kernel⟩
theorem w_e_Mo_sendAgain : Cond.selects "ObservedBlocksModel" y_Mo_sendAgain y_Mo_sendAgain ∈ ob_T := List.mem_filter.mpr ⟨List.mem_of_getElem? (i := 38) (by decide +kernel), by decide +kernel⟩
theorem w_c_Mo_bare : Cond.code y_Mo_bare cb_Mo_bare 4 none ∈ ob_T := List.mem_filter.mpr ⟨List.mem_of_getElem? (i := 1256) (by decide +kernel), by decide +kernel⟩
theorem w_x_Mo_bare : Cond.instanceMethod y_Mo_bare ∈ ob_T := List.mem_filter.mpr ⟨List.mem_of_getElem? (i := 1255) (by decide +kernel), by decide +kernel⟩
theorem w_e_Mo_bare : Cond.selects "ObservedBlocksModel" y_Mo_bare y_Mo_bare ∈ ob_T := List.mem_filter.mpr ⟨List.mem_of_getElem? (i := 49) (by decide +kernel), by decide +kernel⟩
theorem w_c_Mo_readNumber : Cond.code y_Mo_readNumber cb_Mo_readNumber 6 (some .boolean) ∈ ob_T := List.mem_filter.mpr ⟨List.mem_of_getElem? (i := 1236) (by decide +kernel), by decide +kernel⟩
theorem w_x_Mo_readNumber : Cond.instanceMethod y_Mo_readNumber ∈ ob_T := List.mem_filter.mpr ⟨List.mem_of_getElem? (i := 1235) (by decide +kernel), by decide +kernel⟩
theorem w_e_Mo_readNumber : Cond.selects "ObservedBlocksModel" y_Mo_readNumber y_Mo_readNumber ∈ ob_T := List.mem_filter.mpr ⟨List.mem_of_getElem? (i := 44) (by decide +kernel), by decide +kernel⟩
theorem w_c_Mo_readOptions : Cond.code y_Mo_readOptions cb_Mo_readOptions 8 (some .int) ∈ ob_T := List.mem_filter.mpr ⟨List.mem_of_getElem? (i := 1232) (by decide +kernel), by decide +kernel⟩
theorem w_x_Mo_readOptions : Cond.instanceMethod y_Mo_readOptions ∈ ob_T := List.mem_filter.mpr ⟨List.mem_of_getElem? (i := 1231) (by decide +kernel), by decide +kernel⟩
theorem w_e_Mo_readOptions : Cond.selects "ObservedBlocksModel" y_Mo_readOptions y_Mo_readOptions ∈ ob_T := List.mem_filter.mpr ⟨List.mem_of_getElem? (i := 43) (by decide +kernel), by decide +kernel⟩
theorem w_c_Mo_read : Cond.code y_Mo_read cb_Mo_read 2 (some .boolean) ∈ ob_T := List.mem_filter.mpr ⟨List.mem_of_getElem? (i := 1228) (by decide +kernel), by decide +kernel⟩
theorem w_x_Mo_read : Cond.instanceMethod y_Mo_read ∈ ob_T := List.mem_filter.mpr ⟨List.mem_of_getElem? (i := 1227) (by decide +kernel), by decide +kernel⟩
theorem w_e_Mo_read : Cond.selects "ObservedBlocksModel" y_Mo_read y_Mo_read ∈ ob_T := List.mem_filter.mpr ⟨List.mem_of_getElem? (i := 42) (by decide +kernel), by decide +kernel⟩
theorem w_c_Mo_segment : Cond.code y_Mo_segment cb_Mo_segment 5 (some .boolean) ∈ ob_T := List.mem_filter.mpr ⟨List.mem_of_getElem? (i := 1276) (by decide +kernel), by decide +kernel⟩
theorem w_x_Mo_segment : Cond.instanceMethod y_Mo_segment ∈ ob_T := List.mem_filter.mpr ⟨List.mem_of_getElem? (i := 1275) (by decide +kernel), by decide +kernel⟩
theorem w_e_Mo_segment : Cond.selects "ObservedBlocksModel" y_Mo_segment y_Mo_segment ∈ ob_T := List.mem_filter.mpr ⟨List.mem_of_getElem? (i := 54) (by decide +kernel), by decide +kernel⟩
theorem w_c_Mo_resource : Cond.code y_Mo_resource cb_Mo_resource 3 (some .int) ∈ ob_T := List.mem_filter.mpr ⟨List.mem_of_getElem? (i := 1272) (by decide +kernel), by decide +kernel⟩
theorem w_x_Mo_resource : Cond.instanceMethod y_Mo_resource ∈ ob_T := List.mem_filter.mpr ⟨List.mem_of_getElem? (i := 1271) (by decide +kernel), by decide +kernel⟩
theorem w_e_Mo_resource : Cond.selects "ObservedBlocksModel" y_Mo_resource y_Mo_resource ∈ ob_T := List.mem_filter.mpr ⟨List.mem_of_getElem? (i := 53) (by decide +kernel), by decide +kernel⟩
theorem w_c_Mo_ask : Cond.code y_Mo_ask cb_Mo_ask 7 none ∈ ob_T := List.mem_filter.mpr ⟨List.mem_of_getElem? (i := 1134) (by decide +kernel), by decide +kernel⟩
theorem w_x_Mo_ask : Cond.instanceMethod y_Mo_ask ∈ ob_T := List.mem_filter.mpr ⟨List.mem_of_getElem? (i := 1133) (by decide +kernel), by decide +kernel⟩
theorem w_e_Mo_ask : Cond.selects "ObservedBlocksModel" y_Mo_ask y_Mo_ask ∈ ob_T := List.mem_filter.mpr ⟨List.mem_of_getElem? (i := 26) (by decide +kernel), by decide +kernel⟩
theorem w_c_Mo_answered : Cond.code y_Mo_answered cb_Mo_answered 5 none ∈ ob_T := List.mem_filter.mpr ⟨List.mem_of_getElem? (i := 1244) (by decide +kernel), by decide +kernel⟩
theorem w_x_Mo_answered : Cond.instanceMethod y_Mo_answered ∈ ob_T := List.mem_filter.mpr ⟨List.mem_of_getElem? (i := 1243) (by decide +kernel), by decide +kernel⟩
theorem w_e_Mo_answered : Cond.selects "ObservedBlocksModel" y_Mo_answered y_Mo_answered ∈ ob_T := List.mem_filter.mpr ⟨List.mem_of_getElem? (i := 46) (by decide +kernel), by decide +kernel⟩
theorem w_c_Mo_append : Cond.code y_Mo_append cb_Mo_append 3 none ∈ ob_T := List.mem_filter.mpr ⟨List.mem_of_getElem? (i := 1248) (by decide +kernel), by decide +kernel⟩
theorem w_x_Mo_append : Cond.instanceMethod y_Mo_append ∈ ob_T := List.mem_filter.mpr ⟨List.mem_of_getElem? (i := 1247) (by decide +kernel), by decide +kernel⟩
theorem w_e_Mo_append : Cond.selects "ObservedBlocksModel" y_Mo_append y_Mo_append ∈ ob_T := List.mem_filter.mpr ⟨List.mem_of_getElem? (i := 47) (by decide +kernel), by decide +kernel⟩
theorem w_c_Mo_told : Cond.code y_Mo_told cb_Mo_told 4 none ∈ ob_T := List.mem_filter.mpr ⟨List.mem_of_getElem? (i := 1252) (by decide +kernel), by decide +kernel⟩
theorem w_x_Mo_told : Cond.instanceMethod y_Mo_told ∈ ob_T := List.mem_filter.mpr ⟨List.mem_of_getElem? (i := 1251) (by decide +kernel), by decide +kernel⟩
theorem w_e_Mo_told : Cond.selects "ObservedBlocksModel" y_Mo_told y_Mo_told ∈ ob_T := List.mem_filter.mpr ⟨List.mem_of_getElem? (i := 48) (by decide +kernel), by decide +kernel⟩
theorem w_c_Mo_toClient : Cond.code y_Mo_toClient cb_Mo_toClient 2 none ∈ ob_T := List.mem_filter.mpr ⟨List.mem_of_getElem? (i := 1240) (by decide +kernel), by decide +kernel⟩
theorem w_x_Mo_toClient : Cond.instanceMethod y_Mo_toClient ∈ ob_T := List.mem_filter.mpr ⟨List.mem_of_getElem? (i := 1239) (by decide +kernel), by decide +kernel⟩
theorem w_e_Mo_toClient : Cond.selects "ObservedBlocksModel" y_Mo_toClient y_Mo_toClient ∈ ob_T := List.mem_filter.mpr ⟨List.mem_of_getElem? (i := 45) (by decide +kernel), by decide +kernel⟩
theorem w_c_Mo_dropWatcher : Cond.code y_Mo_dropWatcher cb_Mo_dropWatcher 3 none ∈ ob_T := List.mem_filter.mpr ⟨List.mem_of_getElem? (i := 1212) (by decide +kernel), by decide +kernel⟩
theorem w_x_Mo_dropWatcher : Cond.instanceMethod y_Mo_dropWatcher ∈ ob_T := List.mem_filter.mpr ⟨List.mem_of_getElem? (i := 1211) (by decide +kernel), by decide +kernel⟩
theorem w_e_Mo_dropWatcher : Cond.selects "ObservedBlocksModel" y_Mo_dropWatcher y_Mo_dropWatcher ∈ ob_T := List.mem_filter.mpr ⟨List.mem_of_getElem? (i := 39) (by decide +kernel), by decide +kernel⟩
theorem w_c_Mo_watcherOf : Cond.code y_Mo_watcherOf cb_Mo_watcherOf 3 (some .int) ∈ ob_T := List.mem_filter.mpr ⟨List.mem_of_getElem? (i := 1288) (by decide +kernel), by decide +kernel⟩
theorem w_x_Mo_watcherOf : Cond.instanceMethod y_Mo_watcherOf ∈ ob_T := List.mem_filter.mpr ⟨List.mem_of_getElem? (i := 1287) (by decide +kernel), by decide +kernel⟩
theorem w_e_Mo_watcherOf : Cond.selects "ObservedBlocksModel" y_Mo_watcherOf y_Mo_watcherOf ∈ ob_T := List.mem_filter.mpr ⟨List.mem_of_getElem? (i := 57) (by decide +kernel), by decide +kernel⟩
theorem w_c_Mo_writeContent : Cond.code y_Mo_writeContent cb_Mo_writeContent 6 none ∈ ob_T := List.mem_filter.mpr ⟨List.mem_of_getElem? (i := 1196) (by decide +kernel), by decide +kernel⟩
theorem w_x_Mo_writeContent : Cond.instanceMethod y_Mo_writeContent ∈ ob_T := List.mem_filter.mpr ⟨List.mem_of_getElem? (i := 1195) (by decide +kernel), by decide +kernel⟩
theorem w_e_Mo_writeContent : Cond.selects "ObservedBlocksModel" y_Mo_writeContent y_Mo_writeContent ∈ ob_T := List.mem_filter.mpr ⟨List.mem_of_getElem? (i := 36) (by decide +kernel), by decide +kernel⟩
theorem w_c_Mo_tell : Cond.code y_Mo_tell cb_Mo_tell 4 none ∈ ob_T := List.mem_filter.mpr ⟨List.mem_of_getElem? (i := 1192) (by decide +kernel), by decide +kernel⟩
theorem w_x_Mo_tell : Cond.instanceMethod y_Mo_tell ∈ ob_T := List.mem_filter.mpr ⟨List.mem_of_getElem? (i := 1191) (by decide +kernel), by decide +kernel⟩
theorem w_e_Mo_tell : Cond.selects "ObservedBlocksModel" y_Mo_tell y_Mo_tell ∈ ob_T := List.mem_filter.mpr ⟨List.mem_of_getElem? (i := 35) (by decide +kernel), by decide +kernel⟩
theorem w_c_Mo_tellAll : Cond.code y_Mo_tellAll cb_Mo_tellAll 3 none ∈ ob_T := List.mem_filter.mpr ⟨List.mem_of_getElem? (i := 1188) (by decide +kernel), by decide +kernel⟩
theorem w_x_Mo_tellAll : Cond.instanceMethod y_Mo_tellAll ∈ ob_T := List.mem_filter.mpr ⟨List.mem_of_getElem? (i := 1187) (by decide +kernel), by decide +kernel⟩
theorem w_e_Mo_tellAll : Cond.selects "ObservedBlocksModel" y_Mo_tellAll y_Mo_tellAll ∈ ob_T := List.mem_filter.mpr ⟨List.mem_of_getElem? (i := 34) (by decide +kernel), by decide +kernel⟩
theorem w_c_Mo_registers : Cond.code y_Mo_registers cb_Mo_registers 5 (some .boolean) ∈ ob_T := List.mem_filter.mpr ⟨List.mem_of_getElem? (i := 1284) (by decide +kernel), by decide +kernel⟩
theorem w_x_Mo_registers : Cond.instanceMethod y_Mo_registers ∈ ob_T := List.mem_filter.mpr ⟨List.mem_of_getElem? (i := 1283) (by decide +kernel), by decide +kernel⟩
theorem w_e_Mo_registers : Cond.selects "ObservedBlocksModel" y_Mo_registers y_Mo_registers ∈ ob_T := List.mem_filter.mpr ⟨List.mem_of_getElem? (i := 56) (by decide +kernel), by decide +kernel⟩
theorem w_c_Mo_answerGet : Cond.code y_Mo_answerGet cb_Mo_answerGet 6 none ∈ ob_T := List.mem_filter.mpr ⟨List.mem_of_getElem? (i := 1280) (by decide +kernel), by decide +kernel⟩
theorem w_x_Mo_answerGet : Cond.instanceMethod y_Mo_answerGet ∈ ob_T := List.mem_filter.mpr ⟨List.mem_of_getElem? (i := 1279) (by decide +kernel), by decide +kernel⟩
theorem w_e_Mo_answerGet : Cond.selects "ObservedBlocksModel" y_Mo_answerGet y_Mo_answerGet ∈ ob_T := List.mem_filter.mpr ⟨List.mem_of_getElem? (i := 55) (by decide +kernel), by decide +kernel⟩
theorem w_c_Mo_takePart : Cond.code y_Mo_takePart cb_Mo_takePart 5 (some .int) ∈ ob_T := List.mem_filter.mpr ⟨List.mem_of_getElem? (i := 1292) (by decide +kernel), by decide +kernel⟩
theorem w_x_Mo_takePart : Cond.instanceMethod y_Mo_takePart ∈ ob_T := List.mem_filter.mpr ⟨List.mem_of_getElem? (i := 1291) (by decide +kernel), by decide +kernel⟩
theorem w_e_Mo_takePart : Cond.selects "ObservedBlocksModel" y_Mo_takePart y_Mo_takePart ∈ ob_T := List.mem_filter.mpr ⟨List.mem_of_getElem? (i := 58) (by decide +kernel), by decide +kernel⟩
theorem w_c_Mo_forgetAnswer : Cond.code y_Mo_forgetAnswer cb_Mo_forgetAnswer 4 none ∈ ob_T := List.mem_filter.mpr ⟨List.mem_of_getElem? (i := 1300) (by decide +kernel), by decide +kernel⟩
theorem w_x_Mo_forgetAnswer : Cond.instanceMethod y_Mo_forgetAnswer ∈ ob_T := List.mem_filter.mpr ⟨List.mem_of_getElem? (i := 1299) (by decide +kernel), by decide +kernel⟩
theorem w_e_Mo_forgetAnswer : Cond.selects "ObservedBlocksModel" y_Mo_forgetAnswer y_Mo_forgetAnswer ∈ ob_T := List.mem_filter.mpr ⟨List.mem_of_getElem? (i := 60) (by decide +kernel), by decide +kernel⟩
theorem w_c_Mo_answerOf : Cond.code y_Mo_answerOf cb_Mo_answerOf 3 (some .int) ∈ ob_T := List.mem_filter.mpr ⟨List.mem_of_getElem? (i := 1264) (by decide +kernel), by decide +kernel⟩
theorem w_x_Mo_answerOf : Cond.instanceMethod y_Mo_answerOf ∈ ob_T := List.mem_filter.mpr ⟨List.mem_of_getElem? (i := 1263) (by decide +kernel), by decide +kernel⟩
theorem w_e_Mo_answerOf : Cond.selects "ObservedBlocksModel" y_Mo_answerOf y_Mo_answerOf ∈ ob_T := List.mem_filter.mpr ⟨List.mem_of_getElem? (i := 51) (by decide +kernel), by decide +kernel⟩
theorem w_c_Mo_remember : Cond.code y_Mo_remember cb_Mo_remember 3 none ∈ ob_T := List.mem_filter.mpr ⟨List.mem_of_getElem? (i := 1296) (by decide +kernel), by decide +kernel⟩
theorem w_x_Mo_remember : Cond.instanceMethod y_Mo_remember ∈ ob_T := List.mem_filter.mpr ⟨List.mem_of_getElem? (i := 1295) (by decide +kernel), by decide +kernel⟩
theorem w_e_Mo_remember : Cond.selects "ObservedBlocksModel" y_Mo_remember y_Mo_remember ∈ ob_T := List.mem_filter.mpr ⟨List.mem_of_getElem? (i := 59) (by decide +kernel), by decide +kernel⟩
theorem w_c_Mo_handle : Cond.code y_Mo_handle cb_Mo_handle 4 none ∈ ob_T := List.mem_filter.mpr ⟨List.mem_of_getElem? (i := 1268) (by decide +kernel), by decide +kernel⟩
theorem w_x_Mo_handle : Cond.instanceMethod y_Mo_handle ∈ ob_T := List.mem_filter.mpr ⟨List.mem_of_getElem? (i := 1267) (by decide +kernel), by decide +kernel⟩
theorem w_e_Mo_handle : Cond.selects "ObservedBlocksModel" y_Mo_handle y_Mo_handle ∈ ob_T := List.mem_filter.mpr ⟨List.mem_of_getElem? (i := 52) (by decide +kernel), by decide +kernel⟩
theorem w_c_Mo_toServer : Cond.code y_Mo_toServer cb_Mo_toServer 3 none ∈ ob_T := List.mem_filter.mpr ⟨List.mem_of_getElem? (i := 1260) (by decide +kernel), by decide +kernel⟩
theorem w_x_Mo_toServer : Cond.instanceMethod y_Mo_toServer ∈ ob_T := List.mem_filter.mpr ⟨List.mem_of_getElem? (i := 1259) (by decide +kernel), by decide +kernel⟩
theorem w_e_Mo_toServer : Cond.selects "ObservedBlocksModel" y_Mo_toServer y_Mo_toServer ∈ ob_T := List.mem_filter.mpr ⟨List.mem_of_getElem? (i := 50) (by decide +kernel), by decide +kernel⟩
theorem w_c_Mo_isSlot : Cond.code y_Mo_isSlot cb_Mo_isSlot 1 (some .boolean) ∈ ob_T := List.mem_filter.mpr ⟨List.mem_of_getElem? (i := 1126) (by decide +kernel), by decide +kernel⟩
theorem w_s_Mo_isSlot : Cond.static y_Mo_isSlot ∈ ob_T := List.mem_filter.mpr ⟨List.mem_of_getElem? (i := 1125) (by decide +kernel), by decide +kernel⟩
theorem w_c_Mo_use : Cond.code y_Mo_use cb_Mo_use 4 (some .int) ∈ ob_T := List.mem_filter.mpr ⟨List.mem_of_getElem? (i := 1130) (by decide +kernel), by decide +kernel⟩
theorem w_x_Mo_use : Cond.instanceMethod y_Mo_use ∈ ob_T := List.mem_filter.mpr ⟨List.mem_of_getElem? (i := 1129) (by decide +kernel), by decide +kernel⟩
theorem w_e_Mo_use : Cond.selects "ObservedBlocksModel" y_Mo_use y_Mo_use ∈ ob_T := List.mem_filter.mpr ⟨List.mem_of_getElem? (i := 25) (by decide +kernel), by decide +kernel⟩
theorem w_c_Mo_get : Cond.code y_Mo_get cb_Mo_get 5 (some .int) ∈ ob_T := List.mem_filter.mpr ⟨List.mem_of_getElem? (i := 1123) (by decide +kernel), by decide +kernel⟩
theorem w_x_Mo_get : Cond.instanceMethod y_Mo_get ∈ ob_T := List.mem_filter.mpr ⟨List.mem_of_getElem? (i := 1121) (by decide +kernel), by decide +kernel⟩
theorem w_e_Mo_get : Cond.selects "ObservedBlocksModel" y_Mo_get y_Mo_get ∈ ob_T := List.mem_filter.mpr ⟨List.mem_of_getElem? (i := 1122) (by decide +kernel), by decide +kernel⟩
theorem w_c_Mo_put : Cond.code y_Mo_put cb_Mo_put 7 (some .int) ∈ ob_T := List.mem_filter.mpr ⟨List.mem_of_getElem? (i := 1176) (by decide +kernel), by decide +kernel⟩
theorem w_x_Mo_put : Cond.instanceMethod y_Mo_put ∈ ob_T := List.mem_filter.mpr ⟨List.mem_of_getElem? (i := 1174) (by decide +kernel), by decide +kernel⟩
theorem w_e_Mo_put : Cond.selects "ObservedBlocksModel" y_Mo_put y_Mo_put ∈ ob_T := List.mem_filter.mpr ⟨List.mem_of_getElem? (i := 1175) (by decide +kernel), by decide +kernel⟩
theorem w_c_Mo_free : Cond.code y_Mo_free cb_Mo_free 2 (some .int) ∈ ob_T := List.mem_filter.mpr ⟨List.mem_of_getElem? (i := 1180) (by decide +kernel), by decide +kernel⟩
theorem w_x_Mo_free : Cond.instanceMethod y_Mo_free ∈ ob_T := List.mem_filter.mpr ⟨List.mem_of_getElem? (i := 1178) (by decide +kernel), by decide +kernel⟩
theorem w_e_Mo_free : Cond.selects "ObservedBlocksModel" y_Mo_free y_Mo_free ∈ ob_T := List.mem_filter.mpr ⟨List.mem_of_getElem? (i := 1179) (by decide +kernel), by decide +kernel⟩
theorem w_c_Mo_change : Cond.code y_Mo_change cb_Mo_change 5 (some .int) ∈ ob_T := List.mem_filter.mpr ⟨List.mem_of_getElem? (i := 1184) (by decide +kernel), by decide +kernel⟩
theorem w_x_Mo_change : Cond.instanceMethod y_Mo_change ∈ ob_T := List.mem_filter.mpr ⟨List.mem_of_getElem? (i := 1182) (by decide +kernel), by decide +kernel⟩
theorem w_e_Mo_change : Cond.selects "ObservedBlocksModel" y_Mo_change y_Mo_change ∈ ob_T := List.mem_filter.mpr ⟨List.mem_of_getElem? (i := 1183) (by decide +kernel), by decide +kernel⟩
theorem w_c_Mo_wears : Cond.code y_Mo_wears cb_Mo_wears 2 (some .boolean) ∈ ob_T := List.mem_filter.mpr ⟨List.mem_of_getElem? (i := 1204) (by decide +kernel), by decide +kernel⟩
theorem w_x_Mo_wears : Cond.instanceMethod y_Mo_wears ∈ ob_T := List.mem_filter.mpr ⟨List.mem_of_getElem? (i := 1203) (by decide +kernel), by decide +kernel⟩
theorem w_e_Mo_wears : Cond.selects "ObservedBlocksModel" y_Mo_wears y_Mo_wears ∈ ob_T := List.mem_filter.mpr ⟨List.mem_of_getElem? (i := 37) (by decide +kernel), by decide +kernel⟩
theorem w_c_Mo_tick : Cond.code y_Mo_tick cb_Mo_tick 2 (some .int) ∈ ob_T := List.mem_filter.mpr ⟨List.mem_of_getElem? (i := 1200) (by decide +kernel), by decide +kernel⟩
theorem w_x_Mo_tick : Cond.instanceMethod y_Mo_tick ∈ ob_T := List.mem_filter.mpr ⟨List.mem_of_getElem? (i := 1198) (by decide +kernel), by decide +kernel⟩
theorem w_e_Mo_tick : Cond.selects "ObservedBlocksModel" y_Mo_tick y_Mo_tick ∈ ob_T := List.mem_filter.mpr ⟨List.mem_of_getElem? (i := 1199) (by decide +kernel), by decide +kernel⟩
theorem w_c_Mo_isDatagram : Cond.code y_Mo_isDatagram cb_Mo_isDatagram 2 (some .boolean) ∈ ob_T := List.mem_filter.mpr ⟨List.mem_of_getElem? (i := 1220) (by decide +kernel), by decide +kernel⟩
theorem w_x_Mo_isDatagram : Cond.instanceMethod y_Mo_isDatagram ∈ ob_T := List.mem_filter.mpr ⟨List.mem_of_getElem? (i := 1219) (by decide +kernel), by decide +kernel⟩
theorem w_e_Mo_isDatagram : Cond.selects "ObservedBlocksModel" y_Mo_isDatagram y_Mo_isDatagram ∈ ob_T := List.mem_filter.mpr ⟨List.mem_of_getElem? (i := 40) (by decide +kernel), by decide +kernel⟩
theorem w_c_Mo_take : Cond.code y_Mo_take cb_Mo_take 4 none ∈ ob_T := List.mem_filter.mpr ⟨List.mem_of_getElem? (i := 1224) (by decide +kernel), by decide +kernel⟩
theorem w_x_Mo_take : Cond.instanceMethod y_Mo_take ∈ ob_T := List.mem_filter.mpr ⟨List.mem_of_getElem? (i := 1223) (by decide +kernel), by decide +kernel⟩
theorem w_e_Mo_take : Cond.selects "ObservedBlocksModel" y_Mo_take y_Mo_take ∈ ob_T := List.mem_filter.mpr ⟨List.mem_of_getElem? (i := 41) (by decide +kernel), by decide +kernel⟩
theorem w_c_Mo_deliver : Cond.code y_Mo_deliver cb_Mo_deliver 3 (some .int) ∈ ob_T := List.mem_filter.mpr ⟨List.mem_of_getElem? (i := 1216) (by decide +kernel), by decide +kernel⟩
theorem w_x_Mo_deliver : Cond.instanceMethod y_Mo_deliver ∈ ob_T := List.mem_filter.mpr ⟨List.mem_of_getElem? (i := 1214) (by decide +kernel), by decide +kernel⟩
theorem w_e_Mo_deliver : Cond.selects "ObservedBlocksModel" y_Mo_deliver y_Mo_deliver ∈ ob_T := List.mem_filter.mpr ⟨List.mem_of_getElem? (i := 1215) (by decide +kernel), by decide +kernel⟩
theorem w_c_Mo_lose : Cond.code y_Mo_lose cb_Mo_lose 2 (some .int) ∈ ob_T := List.mem_filter.mpr ⟨List.mem_of_getElem? (i := 1304) (by decide +kernel), by decide +kernel⟩
theorem w_x_Mo_lose : Cond.instanceMethod y_Mo_lose ∈ ob_T := List.mem_filter.mpr ⟨List.mem_of_getElem? (i := 1302) (by decide +kernel), by decide +kernel⟩
theorem w_e_Mo_lose : Cond.selects "ObservedBlocksModel" y_Mo_lose y_Mo_lose ∈ ob_T := List.mem_filter.mpr ⟨List.mem_of_getElem? (i := 1303) (by decide +kernel), by decide +kernel⟩
theorem w_c_Mo_repeat : Cond.code y_Mo_repeat cb_Mo_repeat 3 (some .int) ∈ ob_T := List.mem_filter.mpr ⟨List.mem_of_getElem? (i := 1308) (by decide +kernel), by decide +kernel⟩
theorem w_x_Mo_repeat : Cond.instanceMethod y_Mo_repeat ∈ ob_T := List.mem_filter.mpr ⟨List.mem_of_getElem? (i := 1306) (by decide +kernel), by decide +kernel⟩
theorem w_e_Mo_repeat : Cond.selects "ObservedBlocksModel" y_Mo_repeat y_Mo_repeat ∈ ob_T := List.mem_filter.mpr ⟨List.mem_of_getElem? (i := 1307) (by decide +kernel), by decide +kernel⟩
theorem w_c_Mo_spoil : Cond.code y_Mo_spoil cb_Mo_spoil 4 (some .boolean) ∈ ob_T := List.mem_filter.mpr ⟨List.mem_of_getElem? (i := 1312) (by decide +kernel), by decide +kernel⟩
theorem w_x_Mo_spoil : Cond.instanceMethod y_Mo_spoil ∈ ob_T := List.mem_filter.mpr ⟨List.mem_of_getElem? (i := 1310) (by decide +kernel), by decide +kernel⟩
theorem w_e_Mo_spoil : Cond.selects "ObservedBlocksModel" y_Mo_spoil y_Mo_spoil ∈ ob_T := List.mem_filter.mpr ⟨List.mem_of_getElem? (i := 1311) (by decide +kernel), by decide +kernel⟩
theorem w_c_Mo_waiting : Cond.code y_Mo_waiting cb_Mo_waiting 1 (some .int) ∈ ob_T := List.mem_filter.mpr ⟨List.mem_of_getElem? (i := 1316) (by decide +kernel), by decide +kernel⟩
theorem w_x_Mo_waiting : Cond.instanceMethod y_Mo_waiting ∈ ob_T := List.mem_filter.mpr ⟨List.mem_of_getElem? (i := 1314) (by decide +kernel), by decide +kernel⟩
theorem w_e_Mo_waiting : Cond.selects "ObservedBlocksModel" y_Mo_waiting y_Mo_waiting ∈ ob_T := List.mem_filter.mpr ⟨List.mem_of_getElem? (i := 1315) (by decide +kernel), by decide +kernel⟩
theorem w_c_Mo_datagram : Cond.code y_Mo_datagram cb_Mo_datagram 3 (some .int) ∈ ob_T := List.mem_filter.mpr ⟨List.mem_of_getElem? (i := 1320) (by decide +kernel), by decide +kernel⟩
theorem w_x_Mo_datagram : Cond.instanceMethod y_Mo_datagram ∈ ob_T := List.mem_filter.mpr ⟨List.mem_of_getElem? (i := 1318) (by decide +kernel), by decide +kernel⟩
theorem w_e_Mo_datagram : Cond.selects "ObservedBlocksModel" y_Mo_datagram y_Mo_datagram ∈ ob_T := List.mem_filter.mpr ⟨List.mem_of_getElem? (i := 1319) (by decide +kernel), by decide +kernel⟩
theorem w_c_Mo_slot : Cond.code y_Mo_slot cb_Mo_slot 3 (some .int) ∈ ob_T := List.mem_filter.mpr ⟨List.mem_of_getElem? (i := 1324) (by decide +kernel), by decide +kernel⟩
theorem w_x_Mo_slot : Cond.instanceMethod y_Mo_slot ∈ ob_T := List.mem_filter.mpr ⟨List.mem_of_getElem? (i := 1322) (by decide +kernel), by decide +kernel⟩
theorem w_e_Mo_slot : Cond.selects "ObservedBlocksModel" y_Mo_slot y_Mo_slot ∈ ob_T := List.mem_filter.mpr ⟨List.mem_of_getElem? (i := 1323) (by decide +kernel), by decide +kernel⟩
theorem w_c_Mo_body : Cond.code y_Mo_body cb_Mo_body 3 (some .int) ∈ ob_T := List.mem_filter.mpr ⟨List.mem_of_getElem? (i := 1328) (by decide +kernel), by decide +kernel⟩
theorem w_x_Mo_body : Cond.instanceMethod y_Mo_body ∈ ob_T := List.mem_filter.mpr ⟨List.mem_of_getElem? (i := 1326) (by decide +kernel), by decide +kernel⟩
theorem w_e_Mo_body : Cond.selects "ObservedBlocksModel" y_Mo_body y_Mo_body ∈ ob_T := List.mem_filter.mpr ⟨List.mem_of_getElem? (i := 1327) (by decide +kernel), by decide +kernel⟩
theorem w_c_Mo_content : Cond.code y_Mo_content cb_Mo_content 3 (some .int) ∈ ob_T := List.mem_filter.mpr ⟨List.mem_of_getElem? (i := 1332) (by decide +kernel), by decide +kernel⟩
theorem w_x_Mo_content : Cond.instanceMethod y_Mo_content ∈ ob_T := List.mem_filter.mpr ⟨List.mem_of_getElem? (i := 1330) (by decide +kernel), by decide +kernel⟩
theorem w_e_Mo_content : Cond.selects "ObservedBlocksModel" y_Mo_content y_Mo_content ∈ ob_T := List.mem_filter.mpr ⟨List.mem_of_getElem? (i := 1331) (by decide +kernel), by decide +kernel⟩
theorem w_c_Mo_server : Cond.code y_Mo_server cb_Mo_server 2 (some .int) ∈ ob_T := List.mem_filter.mpr ⟨List.mem_of_getElem? (i := 1336) (by decide +kernel), by decide +kernel⟩
theorem w_x_Mo_server : Cond.instanceMethod y_Mo_server ∈ ob_T := List.mem_filter.mpr ⟨List.mem_of_getElem? (i := 1334) (by decide +kernel), by decide +kernel⟩
theorem w_e_Mo_server : Cond.selects "ObservedBlocksModel" y_Mo_server y_Mo_server ∈ ob_T := List.mem_filter.mpr ⟨List.mem_of_getElem? (i := 1335) (by decide +kernel), by decide +kernel⟩
theorem w_c_By_init : Cond.code y_By_init cb_By_init 2 none ∈ ob_T := List.mem_filter.mpr ⟨List.mem_of_getElem? (i := 99) (by decide +kernel), by decide +kernel⟩
theorem w_x_By_init : Cond.instanceMethod y_By_init ∈ ob_T := List.mem_filter.mpr ⟨List.mem_of_getElem? (i := 98) (by decide +kernel), by decide +kernel⟩
theorem w_c_By_has : Cond.code y_By_has cb_By_has 2 (some .boolean) ∈ ob_T := List.mem_filter.mpr ⟨List.mem_of_getElem? (i := 573) (by decide +kernel), by decide +kernel⟩
theorem w_x_By_has : Cond.instanceMethod y_By_has ∈ ob_T := List.mem_filter.mpr ⟨List.mem_of_getElem? (i := 571) (by decide +kernel), by decide +kernel⟩
theorem w_e_By_has : Cond.selects "ObservedBlocks$Bytes" y_By_has y_By_has ∈ ob_T := List.mem_filter.mpr ⟨List.mem_of_getElem? (i := 572) (by decide +kernel), by decide +kernel⟩
theorem w_c_By_byteOrBad : Cond.code y_By_byteOrBad cb_By_byteOrBad 2 (some .int) ∈ ob_T := List.mem_filter.mpr ⟨List.mem_of_getElem? (i := 713) (by decide +kernel), by decide +kernel⟩
theorem w_x_By_byteOrBad : Cond.instanceMethod y_By_byteOrBad ∈ ob_T := List.mem_filter.mpr ⟨List.mem_of_getElem? (i := 711) (by decide +kernel), by decide +kernel⟩
theorem w_e_By_byteOrBad : Cond.selects "ObservedBlocks$Bytes" y_By_byteOrBad y_By_byteOrBad ∈ ob_T := List.mem_filter.mpr ⟨List.mem_of_getElem? (i := 712) (by decide +kernel), by decide +kernel⟩
theorem w_c_By_clear : Cond.code y_By_clear cb_By_clear 1 none ∈ ob_T := List.mem_filter.mpr ⟨List.mem_of_getElem? (i := 458) (by decide +kernel), by decide +kernel⟩
theorem w_x_By_clear : Cond.instanceMethod y_By_clear ∈ ob_T := List.mem_filter.mpr ⟨List.mem_of_getElem? (i := 456) (by decide +kernel), by decide +kernel⟩
theorem w_e_By_clear : Cond.selects "ObservedBlocks$Bytes" y_By_clear y_By_clear ∈ ob_T := List.mem_filter.mpr ⟨List.mem_of_getElem? (i := 457) (by decide +kernel), by decide +kernel⟩
theorem w_c_By_cutTo : Cond.code y_By_cutTo cb_By_cutTo 2 none ∈ ob_T := List.mem_filter.mpr ⟨List.mem_of_getElem? (i := 770) (by decide +kernel), by decide +kernel⟩
theorem w_x_By_cutTo : Cond.instanceMethod y_By_cutTo ∈ ob_T := List.mem_filter.mpr ⟨List.mem_of_getElem? (i := 768) (by decide +kernel), by decide +kernel⟩
theorem w_e_By_cutTo : Cond.selects "ObservedBlocks$Bytes" y_By_cutTo y_By_cutTo ∈ ob_T := List.mem_filter.mpr ⟨List.mem_of_getElem? (i := 769) (by decide +kernel), by decide +kernel⟩
theorem w_c_By_add : Cond.code y_By_add cb_By_add 2 none ∈ ob_T := List.mem_filter.mpr ⟨List.mem_of_getElem? (i := 471) (by decide +kernel), by decide +kernel⟩
theorem w_x_By_add : Cond.instanceMethod y_By_add ∈ ob_T := List.mem_filter.mpr ⟨List.mem_of_getElem? (i := 469) (by decide +kernel), by decide +kernel⟩
theorem w_e_By_add : Cond.selects "ObservedBlocks$Bytes" y_By_add y_By_add ∈ ob_T := List.mem_filter.mpr ⟨List.mem_of_getElem? (i := 470) (by decide +kernel), by decide +kernel⟩
theorem w_c_By_addFrom : Cond.code y_By_addFrom cb_By_addFrom 5 none ∈ ob_T := List.mem_filter.mpr ⟨List.mem_of_getElem? (i := 577) (by decide +kernel), by decide +kernel⟩
theorem w_x_By_addFrom : Cond.instanceMethod y_By_addFrom ∈ ob_T := List.mem_filter.mpr ⟨List.mem_of_getElem? (i := 575) (by decide +kernel), by decide +kernel⟩
theorem w_e_By_addFrom : Cond.selects "ObservedBlocks$Bytes" y_By_addFrom y_By_addFrom ∈ ob_T := List.mem_filter.mpr ⟨List.mem_of_getElem? (i := 576) (by decide +kernel), by decide +kernel⟩
theorem w_c_By_become : Cond.code y_By_become cb_By_become 2 none ∈ ob_T := List.mem_filter.mpr ⟨List.mem_of_getElem? (i := 589) (by decide +kernel), by decide +kernel⟩
theorem w_x_By_become : Cond.instanceMethod y_By_become ∈ ob_T := List.mem_filter.mpr ⟨List.mem_of_getElem? (i := 587) (by decide +kernel), by decide +kernel⟩
theorem w_e_By_become : Cond.selects "ObservedBlocks$Bytes" y_By_become y_By_become ∈ ob_T := List.mem_filter.mpr ⟨List.mem_of_getElem? (i := 588) (by decide +kernel), by decide +kernel⟩
theorem w_c_By_fill : Cond.code y_By_fill cb_By_fill 4 none ∈ ob_T := List.mem_filter.mpr ⟨List.mem_of_getElem? (i := 607) (by decide +kernel), by decide +kernel⟩
theorem w_x_By_fill : Cond.instanceMethod y_By_fill ∈ ob_T := List.mem_filter.mpr ⟨List.mem_of_getElem? (i := 605) (by decide +kernel), by decide +kernel⟩
theorem w_e_By_fill : Cond.selects "ObservedBlocks$Bytes" y_By_fill y_By_fill ∈ ob_T := List.mem_filter.mpr ⟨List.mem_of_getElem? (i := 606) (by decide +kernel), by decide +kernel⟩
theorem w_c_By_spells : Cond.code y_By_spells cb_By_spells 4 (some .boolean) ∈ ob_T := List.mem_filter.mpr ⟨List.mem_of_getElem? (i := 833) (by decide +kernel), by decide +kernel⟩
theorem w_x_By_spells : Cond.instanceMethod y_By_spells ∈ ob_T := List.mem_filter.mpr ⟨List.mem_of_getElem? (i := 831) (by decide +kernel), by decide +kernel⟩
theorem w_e_By_spells : Cond.selects "ObservedBlocks$Bytes" y_By_spells y_By_spells ∈ ob_T := List.mem_filter.mpr ⟨List.mem_of_getElem? (i := 832) (by decide +kernel), by decide +kernel⟩
theorem w_c_Cl_init : Cond.code y_Cl_init cb_Cl_init 3 none ∈ ob_T := List.mem_filter.mpr ⟨List.mem_of_getElem? (i := 132) (by decide +kernel), by decide +kernel⟩
theorem w_x_Cl_init : Cond.instanceMethod y_Cl_init ∈ ob_T := List.mem_filter.mpr ⟨List.mem_of_getElem? (i := 131) (by decide +kernel), by decide +kernel⟩
theorem w_c_Cl_ask : Cond.code y_Cl_ask cb_Cl_ask 4 none ∈ ob_T := List.mem_filter.mpr ⟨List.mem_of_getElem? (i := 462) (by decide +kernel), by decide +kernel⟩
theorem w_x_Cl_ask : Cond.instanceMethod y_Cl_ask ∈ ob_T := List.mem_filter.mpr ⟨List.mem_of_getElem? (i := 460) (by decide +kernel), by decide +kernel⟩
theorem w_e_Cl_ask : Cond.selects "ObservedBlocks$Client" y_Cl_ask y_Cl_ask ∈ ob_T := List.mem_filter.mpr ⟨List.mem_of_getElem? (i := 461) (by decide +kernel), by decide +kernel⟩
theorem w_c_Cl_receive : Cond.code y_Cl_receive cb_Cl_receive 2 none ∈ ob_T := List.mem_filter.mpr ⟨List.mem_of_getElem? (i := 738) (by decide +kernel), by decide +kernel⟩
theorem w_x_Cl_receive : Cond.instanceMethod y_Cl_receive ∈ ob_T := List.mem_filter.mpr ⟨List.mem_of_getElem? (i := 736) (by decide +kernel), by decide +kernel⟩
theorem w_e_Cl_receive : Cond.selects "ObservedBlocks$Client" y_Cl_receive y_Cl_receive ∈ ob_T := List.mem_filter.mpr ⟨List.mem_of_getElem? (i := 737) (by decide +kernel), by decide +kernel⟩
theorem w_c_Cl_receiveAnswer : Cond.code y_Cl_receiveAnswer cb_Cl_receiveAnswer 3 none ∈ ob_T := List.mem_filter.mpr ⟨List.mem_of_getElem? (i := 742) (by decide +kernel), by decide +kernel⟩
theorem w_x_Cl_receiveAnswer : Cond.instanceMethod y_Cl_receiveAnswer ∈ ob_T := List.mem_filter.mpr ⟨List.mem_of_getElem? (i := 741) (by decide +kernel), by decide +kernel⟩
theorem w_e_Cl_receiveAnswer : Cond.selects "ObservedBlocks$Client" y_Cl_receiveAnswer y_Cl_receiveAnswer ∈ ob_T := List.mem_filter.mpr ⟨List.mem_of_getElem? (i := 12) (by decide +kernel), by decide +kernel⟩
theorem w_c_Cl_receiveNews : Cond.code y_Cl_receiveNews cb_Cl_receiveNews 4 none ∈ ob_T := List.mem_filter.mpr ⟨List.mem_of_getElem? (i := 784) (by decide +kernel), by decide +kernel⟩
theorem w_x_Cl_receiveNews : Cond.instanceMethod y_Cl_receiveNews ∈ ob_T := List.mem_filter.mpr ⟨List.mem_of_getElem? (i := 783) (by decide +kernel), by decide +kernel⟩
theorem w_e_Cl_receiveNews : Cond.selects "ObservedBlocks$Client" y_Cl_receiveNews y_Cl_receiveNews ∈ ob_T := List.mem_filter.mpr ⟨List.mem_of_getElem? (i := 16) (by decide +kernel), by decide +kernel⟩
theorem w_c_Cl_pass : Cond.code y_Cl_pass cb_Cl_pass 3 none ∈ ob_T := List.mem_filter.mpr ⟨List.mem_of_getElem? (i := 657) (by decide +kernel), by decide +kernel⟩
theorem w_x_Cl_pass : Cond.instanceMethod y_Cl_pass ∈ ob_T := List.mem_filter.mpr ⟨List.mem_of_getElem? (i := 655) (by decide +kernel), by decide +kernel⟩
theorem w_e_Cl_pass : Cond.selects "ObservedBlocks$Client" y_Cl_pass y_Cl_pass ∈ ob_T := List.mem_filter.mpr ⟨List.mem_of_getElem? (i := 656) (by decide +kernel), by decide +kernel⟩
theorem w_c_Li_init : Cond.code y_Li_init cb_Li_init 2 none ∈ ob_T := List.mem_filter.mpr ⟨List.mem_of_getElem? (i := 92) (by decide +kernel), by decide +kernel⟩
theorem w_x_Li_init : Cond.instanceMethod y_Li_init ∈ ob_T := List.mem_filter.mpr ⟨List.mem_of_getElem? (i := 91) (by decide +kernel), by decide +kernel⟩
theorem w_c_Li_has : Cond.code y_Li_has cb_Li_has 2 (some .boolean) ∈ ob_T := List.mem_filter.mpr ⟨List.mem_of_getElem? (i := 679) (by decide +kernel), by decide +kernel⟩
theorem w_x_Li_has : Cond.instanceMethod y_Li_has ∈ ob_T := List.mem_filter.mpr ⟨List.mem_of_getElem? (i := 677) (by decide +kernel), by decide +kernel⟩
theorem w_e_Li_has : Cond.selects "ObservedBlocks$Line" y_Li_has y_Li_has ∈ ob_T := List.mem_filter.mpr ⟨List.mem_of_getElem? (i := 678) (by decide +kernel), by decide +kernel⟩
theorem w_c_Li_send : Cond.code y_Li_send cb_Li_send 3 none ∈ ob_T := List.mem_filter.mpr ⟨List.mem_of_getElem? (i := 597) (by decide +kernel), by decide +kernel⟩
theorem w_x_Li_send : Cond.instanceMethod y_Li_send ∈ ob_T := List.mem_filter.mpr ⟨List.mem_of_getElem? (i := 595) (by decide +kernel), by decide +kernel⟩
theorem w_e_Li_send : Cond.selects "ObservedBlocks$Line" y_Li_send y_Li_send ∈ ob_T := List.mem_filter.mpr ⟨List.mem_of_getElem? (i := 596) (by decide +kernel), by decide +kernel⟩
theorem w_c_Li_takeOut : Cond.code y_Li_takeOut cb_Li_takeOut 4 none ∈ ob_T := List.mem_filter.mpr ⟨List.mem_of_getElem? (i := 733) (by decide +kernel), by decide +kernel⟩
theorem w_x_Li_takeOut : Cond.instanceMethod y_Li_takeOut ∈ ob_T := List.mem_filter.mpr ⟨List.mem_of_getElem? (i := 731) (by decide +kernel), by decide +kernel⟩
theorem w_e_Li_takeOut : Cond.selects "ObservedBlocks$Line" y_Li_takeOut y_Li_takeOut ∈ ob_T := List.mem_filter.mpr ⟨List.mem_of_getElem? (i := 732) (by decide +kernel), by decide +kernel⟩
theorem w_c_Me_init : Cond.code y_Me_init cb_Me_init 2 none ∈ ob_T := List.mem_filter.mpr ⟨List.mem_of_getElem? (i := 299) (by decide +kernel), by decide +kernel⟩
theorem w_x_Me_init : Cond.instanceMethod y_Me_init ∈ ob_T := List.mem_filter.mpr ⟨List.mem_of_getElem? (i := 298) (by decide +kernel), by decide +kernel⟩
theorem w_c_Me_find : Cond.code y_Me_find cb_Me_find 4 (some .int) ∈ ob_T := List.mem_filter.mpr ⟨List.mem_of_getElem? (i := 814) (by decide +kernel), by decide +kernel⟩
theorem w_x_Me_find : Cond.instanceMethod y_Me_find ∈ ob_T := List.mem_filter.mpr ⟨List.mem_of_getElem? (i := 812) (by decide +kernel), by decide +kernel⟩
theorem w_e_Me_find : Cond.selects "ObservedBlocks$Memory" y_Me_find y_Me_find ∈ ob_T := List.mem_filter.mpr ⟨List.mem_of_getElem? (i := 813) (by decide +kernel), by decide +kernel⟩
theorem w_c_Me_keep : Cond.code y_Me_keep cb_Me_keep 5 none ∈ ob_T := List.mem_filter.mpr ⟨List.mem_of_getElem? (i := 871) (by decide +kernel), by decide +kernel⟩
theorem w_x_Me_keep : Cond.instanceMethod y_Me_keep ∈ ob_T := List.mem_filter.mpr ⟨List.mem_of_getElem? (i := 869) (by decide +kernel), by decide +kernel⟩
theorem w_e_Me_keep : Cond.selects "ObservedBlocks$Memory" y_Me_keep y_Me_keep ∈ ob_T := List.mem_filter.mpr ⟨List.mem_of_getElem? (i := 870) (by decide +kernel), by decide +kernel⟩
theorem w_c_Me_placeOf : Cond.code y_Me_placeOf cb_Me_placeOf 3 (some .int) ∈ ob_T := List.mem_filter.mpr ⟨List.mem_of_getElem? (i := 818) (by decide +kernel), by decide +kernel⟩
theorem w_x_Me_placeOf : Cond.instanceMethod y_Me_placeOf ∈ ob_T := List.mem_filter.mpr ⟨List.mem_of_getElem? (i := 817) (by decide +kernel), by decide +kernel⟩
theorem w_e_Me_placeOf : Cond.selects "ObservedBlocks$Memory" y_Me_placeOf y_Me_placeOf ∈ ob_T := List.mem_filter.mpr ⟨List.mem_of_getElem? (i := 17) (by decide +kernel), by decide +kernel⟩
theorem w_c_Me_takeOut : Cond.code y_Me_takeOut cb_Me_takeOut 4 none ∈ ob_T := List.mem_filter.mpr ⟨List.mem_of_getElem? (i := 875) (by decide +kernel), by decide +kernel⟩
theorem w_x_Me_takeOut : Cond.instanceMethod y_Me_takeOut ∈ ob_T := List.mem_filter.mpr ⟨List.mem_of_getElem? (i := 874) (by decide +kernel), by decide +kernel⟩
theorem w_e_Me_takeOut : Cond.selects "ObservedBlocks$Memory" y_Me_takeOut y_Me_takeOut ∈ ob_T := List.mem_filter.mpr ⟨List.mem_of_getElem? (i := 24) (by decide +kernel), by decide +kernel⟩
theorem w_c_Ms_init : Cond.code y_Ms_init cb_Ms_init 1 none ∈ ob_T := List.mem_filter.mpr ⟨List.mem_of_getElem? (i := 358) (by decide +kernel), by decide +kernel⟩
theorem w_x_Ms_init : Cond.instanceMethod y_Ms_init ∈ ob_T := List.mem_filter.mpr ⟨List.mem_of_getElem? (i := 357) (by decide +kernel), by decide +kernel⟩
theorem w_c_Ms_isRequest : Cond.code y_Ms_isRequest cb_Ms_isRequest 1 (some .boolean) ∈ ob_T := List.mem_filter.mpr ⟨List.mem_of_getElem? (i := 806) (by decide +kernel), by decide +kernel⟩
theorem w_x_Ms_isRequest : Cond.instanceMethod y_Ms_isRequest ∈ ob_T := List.mem_filter.mpr ⟨List.mem_of_getElem? (i := 804) (by decide +kernel), by decide +kernel⟩
theorem w_e_Ms_isRequest : Cond.selects "ObservedBlocks$Message" y_Ms_isRequest y_Ms_isRequest ∈ ob_T := List.mem_filter.mpr ⟨List.mem_of_getElem? (i := 805) (by decide +kernel), by decide +kernel⟩
theorem w_c_Ms_isUnder : Cond.code y_Ms_isUnder cb_Ms_isUnder 4 (some .boolean) ∈ ob_T := List.mem_filter.mpr ⟨List.mem_of_getElem? (i := 826) (by decide +kernel), by decide +kernel⟩
theorem w_x_Ms_isUnder : Cond.instanceMethod y_Ms_isUnder ∈ ob_T := List.mem_filter.mpr ⟨List.mem_of_getElem? (i := 824) (by decide +kernel), by decide +kernel⟩
theorem w_e_Ms_isUnder : Cond.selects "ObservedBlocks$Message" y_Ms_isUnder y_Ms_isUnder ∈ ob_T := List.mem_filter.mpr ⟨List.mem_of_getElem? (i := 825) (by decide +kernel), by decide +kernel⟩
theorem w_c_Ms_read : Cond.code y_Ms_read cb_Ms_read 3 (some .boolean) ∈ ob_T := List.mem_filter.mpr ⟨List.mem_of_getElem? (i := 683) (by decide +kernel), by decide +kernel⟩
theorem w_x_Ms_read : Cond.instanceMethod y_Ms_read ∈ ob_T := List.mem_filter.mpr ⟨List.mem_of_getElem? (i := 681) (by decide +kernel), by decide +kernel⟩
theorem w_e_Ms_read : Cond.selects "ObservedBlocks$Message" y_Ms_read y_Ms_read ∈ ob_T := List.mem_filter.mpr ⟨List.mem_of_getElem? (i := 682) (by decide +kernel), by decide +kernel⟩
theorem w_c_Ms_forget : Cond.code y_Ms_forget cb_Ms_forget 1 none ∈ ob_T := List.mem_filter.mpr ⟨List.mem_of_getElem? (i := 687) (by decide +kernel), by decide +kernel⟩
theorem w_x_Ms_forget : Cond.instanceMethod y_Ms_forget ∈ ob_T := List.mem_filter.mpr ⟨List.mem_of_getElem? (i := 686) (by decide +kernel), by decide +kernel⟩
theorem w_e_Ms_forget : Cond.selects "ObservedBlocks$Message" y_Ms_forget y_Ms_forget ∈ ob_T := List.mem_filter.mpr ⟨List.mem_of_getElem? (i := 4) (by decide +kernel), by decide +kernel⟩
theorem w_c_Ms_readOptions : Cond.code y_Ms_readOptions cb_Ms_readOptions 4 (some .boolean) ∈ ob_T := List.mem_filter.mpr ⟨List.mem_of_getElem? (i := 692) (by decide +kernel), by decide +kernel⟩
theorem w_x_Ms_readOptions : Cond.instanceMethod y_Ms_readOptions ∈ ob_T := List.mem_filter.mpr ⟨List.mem_of_getElem? (i := 691) (by decide +kernel), by decide +kernel⟩
theorem w_e_Ms_readOptions : Cond.selects "ObservedBlocks$Message" y_Ms_readOptions y_Ms_readOptions ∈ ob_T := List.mem_filter.mpr ⟨List.mem_of_getElem? (i := 5) (by decide +kernel), by decide +kernel⟩
theorem w_c_Ms_isAtOption : Cond.code y_Ms_isAtOption cb_Ms_isAtOption 2 (some .boolean) ∈ ob_T := List.mem_filter.mpr ⟨List.mem_of_getElem? (i := 696) (by decide +kernel), by decide +kernel⟩
theorem w_x_Ms_isAtOption : Cond.instanceMethod y_Ms_isAtOption ∈ ob_T := List.mem_filter.mpr ⟨List.mem_of_getElem? (i := 695) (by decide +kernel), by decide +kernel⟩
theorem w_e_Ms_isAtOption : Cond.selects "ObservedBlocks$Message" y_Ms_isAtOption y_Ms_isAtOption ∈ ob_T := List.mem_filter.mpr ⟨List.mem_of_getElem? (i := 6) (by decide +kernel), by decide +kernel⟩
theorem w_c_Ms_readHead : Cond.code y_Ms_readHead cb_Ms_readHead 3 (some .boolean) ∈ ob_T := List.mem_filter.mpr ⟨List.mem_of_getElem? (i := 701) (by decide +kernel), by decide +kernel⟩
theorem w_x_Ms_readHead : Cond.instanceMethod y_Ms_readHead ∈ ob_T := List.mem_filter.mpr ⟨List.mem_of_getElem? (i := 700) (by decide +kernel), by decide +kernel⟩
theorem w_e_Ms_readHead : Cond.selects "ObservedBlocks$Message" y_Ms_readHead y_Ms_readHead ∈ ob_T := List.mem_filter.mpr ⟨List.mem_of_getElem? (i := 7) (by decide +kernel), by decide +kernel⟩
theorem w_c_Ms_keepValue : Cond.code y_Ms_keepValue cb_Ms_keepValue 2 (some .boolean) ∈ ob_T := List.mem_filter.mpr ⟨List.mem_of_getElem? (i := 705) (by decide +kernel), by decide +kernel⟩
theorem w_x_Ms_keepValue : Cond.instanceMethod y_Ms_keepValue ∈ ob_T := List.mem_filter.mpr ⟨List.mem_of_getElem? (i := 704) (by decide +kernel), by decide +kernel⟩
theorem w_e_Ms_keepValue : Cond.selects "ObservedBlocks$Message" y_Ms_keepValue y_Ms_keepValue ∈ ob_T := List.mem_filter.mpr ⟨List.mem_of_getElem? (i := 8) (by decide +kernel), by decide +kernel⟩
theorem w_c_Ms_keepSegment : Cond.code y_Ms_keepSegment cb_Ms_keepSegment 3 (some .boolean) ∈ ob_T := List.mem_filter.mpr ⟨List.mem_of_getElem? (i := 718) (by decide +kernel), by decide +kernel⟩
theorem w_x_Ms_keepSegment : Cond.instanceMethod y_Ms_keepSegment ∈ ob_T := List.mem_filter.mpr ⟨List.mem_of_getElem? (i := 717) (by decide +kernel), by decide +kernel⟩
theorem w_e_Ms_keepSegment : Cond.selects "ObservedBlocks$Message" y_Ms_keepSegment y_Ms_keepSegment ∈ ob_T := List.mem_filter.mpr ⟨List.mem_of_getElem? (i := 10) (by decide +kernel), by decide +kernel⟩
theorem w_c_Ms_numberIn : Cond.code y_Ms_numberIn cb_Ms_numberIn 3 (some .int) ∈ ob_T := List.mem_filter.mpr ⟨List.mem_of_getElem? (i := 709) (by decide +kernel), by decide +kernel⟩
theorem w_x_Ms_numberIn : Cond.instanceMethod y_Ms_numberIn ∈ ob_T := List.mem_filter.mpr ⟨List.mem_of_getElem? (i := 708) (by decide +kernel), by decide +kernel⟩
theorem w_e_Ms_numberIn : Cond.selects "ObservedBlocks$Message" y_Ms_numberIn y_Ms_numberIn ∈ ob_T := List.mem_filter.mpr ⟨List.mem_of_getElem? (i := 9) (by decide +kernel), by decide +kernel⟩
theorem w_c_Ms_isBlock : Cond.code y_Ms_isBlock cb_Ms_isBlock 1 (some .boolean) ∈ ob_T := List.mem_filter.mpr ⟨List.mem_of_getElem? (i := 722) (by decide +kernel), by decide +kernel⟩
theorem w_s_Ms_isBlock : Cond.static y_Ms_isBlock ∈ ob_T := List.mem_filter.mpr ⟨List.mem_of_getElem? (i := 721) (by decide +kernel), by decide +kernel⟩
theorem w_c_Ms_readPayload : Cond.code y_Ms_readPayload cb_Ms_readPayload 3 (some .boolean) ∈ ob_T := List.mem_filter.mpr ⟨List.mem_of_getElem? (i := 729) (by decide +kernel), by decide +kernel⟩
theorem w_x_Ms_readPayload : Cond.instanceMethod y_Ms_readPayload ∈ ob_T := List.mem_filter.mpr ⟨List.mem_of_getElem? (i := 728) (by decide +kernel), by decide +kernel⟩
theorem w_e_Ms_readPayload : Cond.selects "ObservedBlocks$Message" y_Ms_readPayload y_Ms_readPayload ∈ ob_T := List.mem_filter.mpr ⟨List.mem_of_getElem? (i := 11) (by decide +kernel), by decide +kernel⟩
theorem w_c_Pe_init : Cond.code y_Pe_init cb_Pe_init 1 none ∈ ob_T := List.mem_filter.mpr ⟨List.mem_of_getElem? (i := 147) (by decide +kernel), by decide +kernel⟩
theorem w_x_Pe_init : Cond.instanceMethod y_Pe_init ∈ ob_T := List.mem_filter.mpr ⟨List.mem_of_getElem? (i := 146) (by decide +kernel), by decide +kernel⟩
theorem w_c_Pe_start : Cond.code y_Pe_start cb_Pe_start 3 none ∈ ob_T := List.mem_filter.mpr ⟨List.mem_of_getElem? (i := 585) (by decide +kernel), by decide +kernel⟩
theorem w_x_Pe_start : Cond.instanceMethod y_Pe_start ∈ ob_T := List.mem_filter.mpr ⟨List.mem_of_getElem? (i := 583) (by decide +kernel), by decide +kernel⟩
theorem w_e_Pe_start : Cond.selects "ObservedBlocks$Pending" y_Pe_start y_Pe_start ∈ ob_T := List.mem_filter.mpr ⟨List.mem_of_getElem? (i := 584) (by decide +kernel), by decide +kernel⟩
theorem w_c_Pe_stop : Cond.code y_Pe_stop cb_Pe_stop 1 none ∈ ob_T := List.mem_filter.mpr ⟨List.mem_of_getElem? (i := 621) (by decide +kernel), by decide +kernel⟩
theorem w_x_Pe_stop : Cond.instanceMethod y_Pe_stop ∈ ob_T := List.mem_filter.mpr ⟨List.mem_of_getElem? (i := 619) (by decide +kernel), by decide +kernel⟩
theorem w_e_Pe_stop : Cond.selects "ObservedBlocks$Pending" y_Pe_stop y_Pe_stop ∈ ob_T := List.mem_filter.mpr ⟨List.mem_of_getElem? (i := 620) (by decide +kernel), by decide +kernel⟩
theorem w_c_Pe_isActive : Cond.code y_Pe_isActive cb_Pe_isActive 1 (some .boolean) ∈ ob_T := List.mem_filter.mpr ⟨List.mem_of_getElem? (i := 637) (by decide +kernel), by decide +kernel⟩
theorem w_x_Pe_isActive : Cond.instanceMethod y_Pe_isActive ∈ ob_T := List.mem_filter.mpr ⟨List.mem_of_getElem? (i := 635) (by decide +kernel), by decide +kernel⟩
theorem w_e_Pe_isActive : Cond.selects "ObservedBlocks$Pending" y_Pe_isActive y_Pe_isActive ∈ ob_T := List.mem_filter.mpr ⟨List.mem_of_getElem? (i := 636) (by decide +kernel), by decide +kernel⟩
theorem w_c_Pe_isFor : Cond.code y_Pe_isFor cb_Pe_isFor 2 (some .boolean) ∈ ob_T := List.mem_filter.mpr ⟨List.mem_of_getElem? (i := 750) (by decide +kernel), by decide +kernel⟩
theorem w_x_Pe_isFor : Cond.instanceMethod y_Pe_isFor ∈ ob_T := List.mem_filter.mpr ⟨List.mem_of_getElem? (i := 748) (by decide +kernel), by decide +kernel⟩
theorem w_e_Pe_isFor : Cond.selects "ObservedBlocks$Pending" y_Pe_isFor y_Pe_isFor ∈ ob_T := List.mem_filter.mpr ⟨List.mem_of_getElem? (i := 749) (by decide +kernel), by decide +kernel⟩
theorem w_c_Pe_pass : Cond.code y_Pe_pass cb_Pe_pass 1 (some .int) ∈ ob_T := List.mem_filter.mpr ⟨List.mem_of_getElem? (i := 661) (by decide +kernel), by decide +kernel⟩
theorem w_x_Pe_pass : Cond.instanceMethod y_Pe_pass ∈ ob_T := List.mem_filter.mpr ⟨List.mem_of_getElem? (i := 659) (by decide +kernel), by decide +kernel⟩
theorem w_e_Pe_pass : Cond.selects "ObservedBlocks$Pending" y_Pe_pass y_Pe_pass ∈ ob_T := List.mem_filter.mpr ⟨List.mem_of_getElem? (i := 660) (by decide +kernel), by decide +kernel⟩
theorem w_c_Se_init : Cond.code y_Se_init cb_Se_init 3 none ∈ ob_T := List.mem_filter.mpr ⟨List.mem_of_getElem? (i := 261) (by decide +kernel), by decide +kernel⟩
theorem w_x_Se_init : Cond.instanceMethod y_Se_init ∈ ob_T := List.mem_filter.mpr ⟨List.mem_of_getElem? (i := 260) (by decide +kernel), by decide +kernel⟩
theorem w_c_Se_lengthOfParts : Cond.code y_Se_lengthOfParts cb_Se_lengthOfParts 3 (some .int) ∈ ob_T := List.mem_filter.mpr ⟨List.mem_of_getElem? (i := 928) (by decide +kernel), by decide +kernel⟩
theorem w_x_Se_lengthOfParts : Cond.instanceMethod y_Se_lengthOfParts ∈ ob_T := List.mem_filter.mpr ⟨List.mem_of_getElem? (i := 926) (by decide +kernel), by decide +kernel⟩
theorem w_e_Se_lengthOfParts : Cond.selects "ObservedBlocks$Server" y_Se_lengthOfParts y_Se_lengthOfParts ∈ ob_T := List.mem_filter.mpr ⟨List.mem_of_getElem? (i := 927) (by decide +kernel), by decide +kernel⟩
theorem w_c_Se_answer : Cond.code y_Se_answer cb_Se_answer 6 none ∈ ob_T := List.mem_filter.mpr ⟨List.mem_of_getElem? (i := 810) (by decide +kernel), by decide +kernel⟩
theorem w_x_Se_answer : Cond.instanceMethod y_Se_answer ∈ ob_T := List.mem_filter.mpr ⟨List.mem_of_getElem? (i := 808) (by decide +kernel), by decide +kernel⟩
theorem w_e_Se_answer : Cond.selects "ObservedBlocks$Server" y_Se_answer y_Se_answer ∈ ob_T := List.mem_filter.mpr ⟨List.mem_of_getElem? (i := 809) (by decide +kernel), by decide +kernel⟩
theorem w_c_Se_resourceUnder : Cond.code y_Se_resourceUnder cb_Se_resourceUnder 3 (some .int) ∈ ob_T := List.mem_filter.mpr ⟨List.mem_of_getElem? (i := 822) (by decide +kernel), by decide +kernel⟩
theorem w_x_Se_resourceUnder : Cond.instanceMethod y_Se_resourceUnder ∈ ob_T := List.mem_filter.mpr ⟨List.mem_of_getElem? (i := 821) (by decide +kernel), by decide +kernel⟩
theorem w_e_Se_resourceUnder : Cond.selects "ObservedBlocks$Server" y_Se_resourceUnder y_Se_resourceUnder ∈ ob_T := List.mem_filter.mpr ⟨List.mem_of_getElem? (i := 18) (by decide +kernel), by decide +kernel⟩
theorem w_c_Se_handle : Cond.code y_Se_handle cb_Se_handle 5 (some .int) ∈ ob_T := List.mem_filter.mpr ⟨List.mem_of_getElem? (i := 839) (by decide +kernel), by decide +kernel⟩
theorem w_x_Se_handle : Cond.instanceMethod y_Se_handle ∈ ob_T := List.mem_filter.mpr ⟨List.mem_of_getElem? (i := 838) (by decide +kernel), by decide +kernel⟩
theorem w_e_Se_handle : Cond.selects "ObservedBlocks$Server" y_Se_handle y_Se_handle ∈ ob_T := List.mem_filter.mpr ⟨List.mem_of_getElem? (i := 19) (by decide +kernel), by decide +kernel⟩
theorem w_c_Se_takePart : Cond.code y_Se_takePart cb_Se_takePart 5 (some .int) ∈ ob_T := List.mem_filter.mpr ⟨List.mem_of_getElem? (i := 843) (by decide +kernel), by decide +kernel⟩
theorem w_x_Se_takePart : Cond.instanceMethod y_Se_takePart ∈ ob_T := List.mem_filter.mpr ⟨List.mem_of_getElem? (i := 842) (by decide +kernel), by decide +kernel⟩
theorem w_e_Se_takePart : Cond.selects "ObservedBlocks$Server" y_Se_takePart y_Se_takePart ∈ ob_T := List.mem_filter.mpr ⟨List.mem_of_getElem? (i := 20) (by decide +kernel), by decide +kernel⟩
theorem w_c_Se_addContent : Cond.code y_Se_addContent cb_Se_addContent 5 none ∈ ob_T := List.mem_filter.mpr ⟨List.mem_of_getElem? (i := 854) (by decide +kernel), by decide +kernel⟩
theorem w_x_Se_addContent : Cond.instanceMethod y_Se_addContent ∈ ob_T := List.mem_filter.mpr ⟨List.mem_of_getElem? (i := 853) (by decide +kernel), by decide +kernel⟩
theorem w_e_Se_addContent : Cond.selects "ObservedBlocks$Server" y_Se_addContent y_Se_addContent ∈ ob_T := List.mem_filter.mpr ⟨List.mem_of_getElem? (i := 21) (by decide +kernel), by decide +kernel⟩
theorem w_c_Se_blockIn : Cond.code y_Se_blockIn cb_Se_blockIn 5 (some .int) ∈ ob_T := List.mem_filter.mpr ⟨List.mem_of_getElem? (i := 644) (by decide +kernel), by decide +kernel⟩
theorem w_x_Se_blockIn : Cond.instanceMethod y_Se_blockIn ∈ ob_T := List.mem_filter.mpr ⟨List.mem_of_getElem? (i := 643) (by decide +kernel), by decide +kernel⟩
theorem w_e_Se_blockIn : Cond.selects "ObservedBlocks$Server" y_Se_blockIn y_Se_blockIn ∈ ob_T := List.mem_filter.mpr ⟨List.mem_of_getElem? (i := 2) (by decide +kernel), by decide +kernel⟩
theorem w_c_Se_watcherWith : Cond.code y_Se_watcherWith cb_Se_watcherWith 3 (some .int) ∈ ob_T := List.mem_filter.mpr ⟨List.mem_of_getElem? (i := 862) (by decide +kernel), by decide +kernel⟩
theorem w_x_Se_watcherWith : Cond.instanceMethod y_Se_watcherWith ∈ ob_T := List.mem_filter.mpr ⟨List.mem_of_getElem? (i := 861) (by decide +kernel), by decide +kernel⟩
theorem w_e_Se_watcherWith : Cond.selects "ObservedBlocks$Server" y_Se_watcherWith y_Se_watcherWith ∈ ob_T := List.mem_filter.mpr ⟨List.mem_of_getElem? (i := 23) (by decide +kernel), by decide +kernel⟩
theorem w_c_Se_beginWatch : Cond.code y_Se_beginWatch cb_Se_beginWatch 5 (some .boolean) ∈ ob_T := List.mem_filter.mpr ⟨List.mem_of_getElem? (i := 858) (by decide +kernel), by decide +kernel⟩
theorem w_x_Se_beginWatch : Cond.instanceMethod y_Se_beginWatch ∈ ob_T := List.mem_filter.mpr ⟨List.mem_of_getElem? (i := 857) (by decide +kernel), by decide +kernel⟩
theorem w_e_Se_beginWatch : Cond.selects "ObservedBlocks$Server" y_Se_beginWatch y_Se_beginWatch ∈ ob_T := List.mem_filter.mpr ⟨List.mem_of_getElem? (i := 22) (by decide +kernel), by decide +kernel⟩
theorem w_c_Se_endWatch : Cond.code y_Se_endWatch cb_Se_endWatch 4 none ∈ ob_T := List.mem_filter.mpr ⟨List.mem_of_getElem? (i := 670) (by decide +kernel), by decide +kernel⟩
theorem w_x_Se_endWatch : Cond.instanceMethod y_Se_endWatch ∈ ob_T := List.mem_filter.mpr ⟨List.mem_of_getElem? (i := 669) (by decide +kernel), by decide +kernel⟩
theorem w_e_Se_endWatch : Cond.selects "ObservedBlocks$Server" y_Se_endWatch y_Se_endWatch ∈ ob_T := List.mem_filter.mpr ⟨List.mem_of_getElem? (i := 3) (by decide +kernel), by decide +kernel⟩
theorem w_c_Se_tellWatchersOf : Cond.code y_Se_tellWatchersOf cb_Se_tellWatchersOf 3 none ∈ ob_T := List.mem_filter.mpr ⟨List.mem_of_getElem? (i := 629) (by decide +kernel), by decide +kernel⟩
theorem w_x_Se_tellWatchersOf : Cond.instanceMethod y_Se_tellWatchersOf ∈ ob_T := List.mem_filter.mpr ⟨List.mem_of_getElem? (i := 627) (by decide +kernel), by decide +kernel⟩
theorem w_e_Se_tellWatchersOf : Cond.selects "ObservedBlocks$Server" y_Se_tellWatchersOf y_Se_tellWatchersOf ∈ ob_T := List.mem_filter.mpr ⟨List.mem_of_getElem? (i := 628) (by decide +kernel), by decide +kernel⟩
theorem w_c_Se_tell : Cond.code y_Se_tell cb_Se_tell 2 none ∈ ob_T := List.mem_filter.mpr ⟨List.mem_of_getElem? (i := 633) (by decide +kernel), by decide +kernel⟩
theorem w_x_Se_tell : Cond.instanceMethod y_Se_tell ∈ ob_T := List.mem_filter.mpr ⟨List.mem_of_getElem? (i := 632) (by decide +kernel), by decide +kernel⟩
theorem w_e_Se_tell : Cond.selects "ObservedBlocks$Server" y_Se_tell y_Se_tell ∈ ob_T := List.mem_filter.mpr ⟨List.mem_of_getElem? (i := 1) (by decide +kernel), by decide +kernel⟩
theorem w_c_Se_receiveReceipt : Cond.code y_Se_receiveReceipt cb_Se_receiveReceipt 3 none ∈ ob_T := List.mem_filter.mpr ⟨List.mem_of_getElem? (i := 880) (by decide +kernel), by decide +kernel⟩
theorem w_x_Se_receiveReceipt : Cond.instanceMethod y_Se_receiveReceipt ∈ ob_T := List.mem_filter.mpr ⟨List.mem_of_getElem? (i := 878) (by decide +kernel), by decide +kernel⟩
theorem w_e_Se_receiveReceipt : Cond.selects "ObservedBlocks$Server" y_Se_receiveReceipt y_Se_receiveReceipt ∈ ob_T := List.mem_filter.mpr ⟨List.mem_of_getElem? (i := 879) (by decide +kernel), by decide +kernel⟩
theorem w_c_Se_pass : Cond.code y_Se_pass cb_Se_pass 4 none ∈ ob_T := List.mem_filter.mpr ⟨List.mem_of_getElem? (i := 665) (by decide +kernel), by decide +kernel⟩
theorem w_x_Se_pass : Cond.instanceMethod y_Se_pass ∈ ob_T := List.mem_filter.mpr ⟨List.mem_of_getElem? (i := 663) (by decide +kernel), by decide +kernel⟩
theorem w_e_Se_pass : Cond.selects "ObservedBlocks$Server" y_Se_pass y_Se_pass ∈ ob_T := List.mem_filter.mpr ⟨List.mem_of_getElem? (i := 664) (by decide +kernel), by decide +kernel⟩
theorem w_c_Sl_init : Cond.code y_Sl_init cb_Sl_init 2 none ∈ ob_T := List.mem_filter.mpr ⟨List.mem_of_getElem? (i := 139) (by decide +kernel), by decide +kernel⟩
theorem w_x_Sl_init : Cond.instanceMethod y_Sl_init ∈ ob_T := List.mem_filter.mpr ⟨List.mem_of_getElem? (i := 138) (by decide +kernel), by decide +kernel⟩
theorem w_c_Sl_begin : Cond.code y_Sl_begin cb_Sl_begin 5 none ∈ ob_T := List.mem_filter.mpr ⟨List.mem_of_getElem? (i := 454) (by decide +kernel), by decide +kernel⟩
theorem w_x_Sl_begin : Cond.instanceMethod y_Sl_begin ∈ ob_T := List.mem_filter.mpr ⟨List.mem_of_getElem? (i := 452) (by decide +kernel), by decide +kernel⟩
theorem w_e_Sl_begin : Cond.selects "ObservedBlocks$Slot" y_Sl_begin y_Sl_begin ∈ ob_T := List.mem_filter.mpr ⟨List.mem_of_getElem? (i := 453) (by decide +kernel), by decide +kernel⟩
theorem w_c_Sl_end : Cond.code y_Sl_end cb_Sl_end 1 none ∈ ob_T := List.mem_filter.mpr ⟨List.mem_of_getElem? (i := 617) (by decide +kernel), by decide +kernel⟩
theorem w_x_Sl_end : Cond.instanceMethod y_Sl_end ∈ ob_T := List.mem_filter.mpr ⟨List.mem_of_getElem? (i := 615) (by decide +kernel), by decide +kernel⟩
theorem w_e_Sl_end : Cond.selects "ObservedBlocks$Slot" y_Sl_end y_Sl_end ∈ ob_T := List.mem_filter.mpr ⟨List.mem_of_getElem? (i := 616) (by decide +kernel), by decide +kernel⟩
theorem w_c_Sl_isAskedFor : Cond.code y_Sl_isAskedFor cb_Sl_isAskedFor 2 (some .boolean) ∈ ob_T := List.mem_filter.mpr ⟨List.mem_of_getElem? (i := 746) (by decide +kernel), by decide +kernel⟩
theorem w_x_Sl_isAskedFor : Cond.instanceMethod y_Sl_isAskedFor ∈ ob_T := List.mem_filter.mpr ⟨List.mem_of_getElem? (i := 744) (by decide +kernel), by decide +kernel⟩
theorem w_e_Sl_isAskedFor : Cond.selects "ObservedBlocks$Slot" y_Sl_isAskedFor y_Sl_isAskedFor ∈ ob_T := List.mem_filter.mpr ⟨List.mem_of_getElem? (i := 745) (by decide +kernel), by decide +kernel⟩
theorem w_c_Sl_isWatchedFor : Cond.code y_Sl_isWatchedFor cb_Sl_isWatchedFor 2 (some .boolean) ∈ ob_T := List.mem_filter.mpr ⟨List.mem_of_getElem? (i := 788) (by decide +kernel), by decide +kernel⟩
theorem w_x_Sl_isWatchedFor : Cond.instanceMethod y_Sl_isWatchedFor ∈ ob_T := List.mem_filter.mpr ⟨List.mem_of_getElem? (i := 786) (by decide +kernel), by decide +kernel⟩
theorem w_e_Sl_isWatchedFor : Cond.selects "ObservedBlocks$Slot" y_Sl_isWatchedFor y_Sl_isWatchedFor ∈ ob_T := List.mem_filter.mpr ⟨List.mem_of_getElem? (i := 787) (by decide +kernel), by decide +kernel⟩
theorem w_c_Sl_asksToWatch : Cond.code y_Sl_asksToWatch cb_Sl_asksToWatch 1 (some .boolean) ∈ ob_T := List.mem_filter.mpr ⟨List.mem_of_getElem? (i := 475) (by decide +kernel), by decide +kernel⟩
theorem w_x_Sl_asksToWatch : Cond.instanceMethod y_Sl_asksToWatch ∈ ob_T := List.mem_filter.mpr ⟨List.mem_of_getElem? (i := 473) (by decide +kernel), by decide +kernel⟩
theorem w_e_Sl_asksToWatch : Cond.selects "ObservedBlocks$Slot" y_Sl_asksToWatch y_Sl_asksToWatch ∈ ob_T := List.mem_filter.mpr ⟨List.mem_of_getElem? (i := 474) (by decide +kernel), by decide +kernel⟩
theorem w_c_Sl_hasMoreToPut : Cond.code y_Sl_hasMoreToPut cb_Sl_hasMoreToPut 1 (some .boolean) ∈ ob_T := List.mem_filter.mpr ⟨List.mem_of_getElem? (i := 561) (by decide +kernel), by decide +kernel⟩
theorem w_x_Sl_hasMoreToPut : Cond.instanceMethod y_Sl_hasMoreToPut ∈ ob_T := List.mem_filter.mpr ⟨List.mem_of_getElem? (i := 559) (by decide +kernel), by decide +kernel⟩
theorem w_e_Sl_hasMoreToPut : Cond.selects "ObservedBlocks$Slot" y_Sl_hasMoreToPut y_Sl_hasMoreToPut ∈ ob_T := List.mem_filter.mpr ⟨List.mem_of_getElem? (i := 560) (by decide +kernel), by decide +kernel⟩
theorem w_c_Sl_takeAnswer : Cond.code y_Sl_takeAnswer cb_Sl_takeAnswer 2 (some .boolean) ∈ ob_T := List.mem_filter.mpr ⟨List.mem_of_getElem? (i := 754) (by decide +kernel), by decide +kernel⟩
theorem w_x_Sl_takeAnswer : Cond.instanceMethod y_Sl_takeAnswer ∈ ob_T := List.mem_filter.mpr ⟨List.mem_of_getElem? (i := 752) (by decide +kernel), by decide +kernel⟩
theorem w_e_Sl_takeAnswer : Cond.selects "ObservedBlocks$Slot" y_Sl_takeAnswer y_Sl_takeAnswer ∈ ob_T := List.mem_filter.mpr ⟨List.mem_of_getElem? (i := 753) (by decide +kernel), by decide +kernel⟩
theorem w_c_Sl_isBlockDue : Cond.code y_Sl_isBlockDue cb_Sl_isBlockDue 2 (some .boolean) ∈ ob_T := List.mem_filter.mpr ⟨List.mem_of_getElem? (i := 758) (by decide +kernel), by decide +kernel⟩
theorem w_x_Sl_isBlockDue : Cond.instanceMethod y_Sl_isBlockDue ∈ ob_T := List.mem_filter.mpr ⟨List.mem_of_getElem? (i := 757) (by decide +kernel), by decide +kernel⟩
theorem w_e_Sl_isBlockDue : Cond.selects "ObservedBlocks$Slot" y_Sl_isBlockDue y_Sl_isBlockDue ∈ ob_T := List.mem_filter.mpr ⟨List.mem_of_getElem? (i := 13) (by decide +kernel), by decide +kernel⟩
theorem w_c_Sl_takeBlock : Cond.code y_Sl_takeBlock cb_Sl_takeBlock 2 (some .boolean) ∈ ob_T := List.mem_filter.mpr ⟨List.mem_of_getElem? (i := 766) (by decide +kernel), by decide +kernel⟩
theorem w_x_Sl_takeBlock : Cond.instanceMethod y_Sl_takeBlock ∈ ob_T := List.mem_filter.mpr ⟨List.mem_of_getElem? (i := 765) (by decide +kernel), by decide +kernel⟩
theorem w_e_Sl_takeBlock : Cond.selects "ObservedBlocks$Slot" y_Sl_takeBlock y_Sl_takeBlock ∈ ob_T := List.mem_filter.mpr ⟨List.mem_of_getElem? (i := 14) (by decide +kernel), by decide +kernel⟩
theorem w_c_Sl_isNews : Cond.code y_Sl_isNews cb_Sl_isNews 3 (some .boolean) ∈ ob_T := List.mem_filter.mpr ⟨List.mem_of_getElem? (i := 796) (by decide +kernel), by decide +kernel⟩
theorem w_x_Sl_isNews : Cond.instanceMethod y_Sl_isNews ∈ ob_T := List.mem_filter.mpr ⟨List.mem_of_getElem? (i := 794) (by decide +kernel), by decide +kernel⟩
theorem w_e_Sl_isNews : Cond.selects "ObservedBlocks$Slot" y_Sl_isNews y_Sl_isNews ∈ ob_T := List.mem_filter.mpr ⟨List.mem_of_getElem? (i := 795) (by decide +kernel), by decide +kernel⟩
theorem w_c_Sl_takeNews : Cond.code y_Sl_takeNews cb_Sl_takeNews 2 (some .boolean) ∈ ob_T := List.mem_filter.mpr ⟨List.mem_of_getElem? (i := 801) (by decide +kernel), by decide +kernel⟩
theorem w_x_Sl_takeNews : Cond.instanceMethod y_Sl_takeNews ∈ ob_T := List.mem_filter.mpr ⟨List.mem_of_getElem? (i := 799) (by decide +kernel), by decide +kernel⟩
theorem w_e_Sl_takeNews : Cond.selects "ObservedBlocks$Slot" y_Sl_takeNews y_Sl_takeNews ∈ ob_T := List.mem_filter.mpr ⟨List.mem_of_getElem? (i := 800) (by decide +kernel), by decide +kernel⟩
theorem w_c_Sl_goOn : Cond.code y_Sl_goOn cb_Sl_goOn 2 (some .boolean) ∈ ob_T := List.mem_filter.mpr ⟨List.mem_of_getElem? (i := 775) (by decide +kernel), by decide +kernel⟩
theorem w_x_Sl_goOn : Cond.instanceMethod y_Sl_goOn ∈ ob_T := List.mem_filter.mpr ⟨List.mem_of_getElem? (i := 774) (by decide +kernel), by decide +kernel⟩
theorem w_e_Sl_goOn : Cond.selects "ObservedBlocks$Slot" y_Sl_goOn y_Sl_goOn ∈ ob_T := List.mem_filter.mpr ⟨List.mem_of_getElem? (i := 15) (by decide +kernel), by decide +kernel⟩
theorem w_c_Sl_tellOf : Cond.code y_Sl_tellOf cb_Sl_tellOf 2 (some .int) ∈ ob_T := List.mem_filter.mpr ⟨List.mem_of_getElem? (i := 912) (by decide +kernel), by decide +kernel⟩
theorem w_x_Sl_tellOf : Cond.instanceMethod y_Sl_tellOf ∈ ob_T := List.mem_filter.mpr ⟨List.mem_of_getElem? (i := 910) (by decide +kernel), by decide +kernel⟩
theorem w_e_Sl_tellOf : Cond.selects "ObservedBlocks$Slot" y_Sl_tellOf y_Sl_tellOf ∈ ob_T := List.mem_filter.mpr ⟨List.mem_of_getElem? (i := 911) (by decide +kernel), by decide +kernel⟩
theorem w_c_Wa_init : Cond.code y_Wa_init cb_Wa_init 1 none ∈ ob_T := List.mem_filter.mpr ⟨List.mem_of_getElem? (i := 270) (by decide +kernel), by decide +kernel⟩
theorem w_x_Wa_init : Cond.instanceMethod y_Wa_init ∈ ob_T := List.mem_filter.mpr ⟨List.mem_of_getElem? (i := 269) (by decide +kernel), by decide +kernel⟩
theorem w_c_Wa_begin : Cond.code y_Wa_begin cb_Wa_begin 4 none ∈ ob_T := List.mem_filter.mpr ⟨List.mem_of_getElem? (i := 866) (by decide +kernel), by decide +kernel⟩
theorem w_x_Wa_begin : Cond.instanceMethod y_Wa_begin ∈ ob_T := List.mem_filter.mpr ⟨List.mem_of_getElem? (i := 864) (by decide +kernel), by decide +kernel⟩
theorem w_e_Wa_begin : Cond.selects "ObservedBlocks$Watcher" y_Wa_begin y_Wa_begin ∈ ob_T := List.mem_filter.mpr ⟨List.mem_of_getElem? (i := 865) (by decide +kernel), by decide +kernel⟩
theorem w_c_Wr_init : Cond.code y_Wr_init cb_Wr_init 1 none ∈ ob_T := List.mem_filter.mpr ⟨List.mem_of_getElem? (i := 230) (by decide +kernel), by decide +kernel⟩
theorem w_x_Wr_init : Cond.instanceMethod y_Wr_init ∈ ob_T := List.mem_filter.mpr ⟨List.mem_of_getElem? (i := 229) (by decide +kernel), by decide +kernel⟩
theorem w_c_Wr_beginEmpty : Cond.code y_Wr_beginEmpty cb_Wr_beginEmpty 3 none ∈ ob_T := List.mem_filter.mpr ⟨List.mem_of_getElem? (i := 792) (by decide +kernel), by decide +kernel⟩
theorem w_x_Wr_beginEmpty : Cond.instanceMethod y_Wr_beginEmpty ∈ ob_T := List.mem_filter.mpr ⟨List.mem_of_getElem? (i := 790) (by decide +kernel), by decide +kernel⟩
theorem w_e_Wr_beginEmpty : Cond.selects "ObservedBlocks$Writer" y_Wr_beginEmpty y_Wr_beginEmpty ∈ ob_T := List.mem_filter.mpr ⟨List.mem_of_getElem? (i := 791) (by decide +kernel), by decide +kernel⟩
theorem w_c_Wr_begin : Cond.code y_Wr_begin cb_Wr_begin 5 none ∈ ob_T := List.mem_filter.mpr ⟨List.mem_of_getElem? (i := 466) (by decide +kernel), by decide +kernel⟩
theorem w_x_Wr_begin : Cond.instanceMethod y_Wr_begin ∈ ob_T := List.mem_filter.mpr ⟨List.mem_of_getElem? (i := 464) (by decide +kernel), by decide +kernel⟩
theorem w_e_Wr_begin : Cond.selects "ObservedBlocks$Writer" y_Wr_begin y_Wr_begin ∈ ob_T := List.mem_filter.mpr ⟨List.mem_of_getElem? (i := 465) (by decide +kernel), by decide +kernel⟩
theorem w_c_Wr_addNumber : Cond.code y_Wr_addNumber cb_Wr_addNumber 4 none ∈ ob_T := List.mem_filter.mpr ⟨List.mem_of_getElem? (i := 479) (by decide +kernel), by decide +kernel⟩
theorem w_x_Wr_addNumber : Cond.instanceMethod y_Wr_addNumber ∈ ob_T := List.mem_filter.mpr ⟨List.mem_of_getElem? (i := 477) (by decide +kernel), by decide +kernel⟩
theorem w_e_Wr_addNumber : Cond.selects "ObservedBlocks$Writer" y_Wr_addNumber y_Wr_addNumber ∈ ob_T := List.mem_filter.mpr ⟨List.mem_of_getElem? (i := 478) (by decide +kernel), by decide +kernel⟩
theorem w_c_Wr_addSegment : Cond.code y_Wr_addSegment cb_Wr_addSegment 3 none ∈ ob_T := List.mem_filter.mpr ⟨List.mem_of_getElem? (i := 496) (by decide +kernel), by decide +kernel⟩
theorem w_x_Wr_addSegment : Cond.instanceMethod y_Wr_addSegment ∈ ob_T := List.mem_filter.mpr ⟨List.mem_of_getElem? (i := 494) (by decide +kernel), by decide +kernel⟩
theorem w_e_Wr_addSegment : Cond.selects "ObservedBlocks$Writer" y_Wr_addSegment y_Wr_addSegment ∈ ob_T := List.mem_filter.mpr ⟨List.mem_of_getElem? (i := 495) (by decide +kernel), by decide +kernel⟩
theorem w_c_Wr_addPayload : Cond.code y_Wr_addPayload cb_Wr_addPayload 4 none ∈ ob_T := List.mem_filter.mpr ⟨List.mem_of_getElem? (i := 569) (by decide +kernel), by decide +kernel⟩
theorem w_x_Wr_addPayload : Cond.instanceMethod y_Wr_addPayload ∈ ob_T := List.mem_filter.mpr ⟨List.mem_of_getElem? (i := 567) (by decide +kernel), by decide +kernel⟩
theorem w_e_Wr_addPayload : Cond.selects "ObservedBlocks$Writer" y_Wr_addPayload y_Wr_addPayload ∈ ob_T := List.mem_filter.mpr ⟨List.mem_of_getElem? (i := 568) (by decide +kernel), by decide +kernel⟩
theorem w_c_Wr_addHead : Cond.code y_Wr_addHead cb_Wr_addHead 4 none ∈ ob_T := List.mem_filter.mpr ⟨List.mem_of_getElem? (i := 483) (by decide +kernel), by decide +kernel⟩
theorem w_x_Wr_addHead : Cond.instanceMethod y_Wr_addHead ∈ ob_T := List.mem_filter.mpr ⟨List.mem_of_getElem? (i := 482) (by decide +kernel), by decide +kernel⟩
theorem w_e_Wr_addHead : Cond.selects "ObservedBlocks$Writer" y_Wr_addHead y_Wr_addHead ∈ ob_T := List.mem_filter.mpr ⟨List.mem_of_getElem? (i := 0) (by decide +kernel), by decide +kernel⟩
theorem w_c_Str_length : Cond.code y_Str_length cb_Str_length 1 (some .int) ∈ ob_T := List.mem_filter.mpr ⟨List.mem_of_getElem? (i := 500) (by decide +kernel), by decide +kernel⟩
theorem w_x_Str_length : Cond.instanceMethod y_Str_length ∈ ob_T := List.mem_filter.mpr ⟨List.mem_of_getElem? (i := 498) (by decide +kernel), by decide +kernel⟩
theorem w_e_Str_length : Cond.selects "java/lang/String" y_Str_length y_Str_length ∈ ob_T := List.mem_filter.mpr ⟨List.mem_of_getElem? (i := 499) (by decide +kernel), by decide +kernel⟩
theorem w_c_Str_isEmpty : Cond.code y_Str_isEmpty cb_Str_isEmpty 1 (some .boolean) ∈ ob_T := List.mem_filter.mpr ⟨List.mem_of_getElem? (i := 554) (by decide +kernel), by decide +kernel⟩
theorem w_x_Str_isEmpty : Cond.instanceMethod y_Str_isEmpty ∈ ob_T := List.mem_filter.mpr ⟨List.mem_of_getElem? (i := 552) (by decide +kernel), by decide +kernel⟩
theorem w_e_Str_isEmpty : Cond.selects "java/lang/String" y_Str_isEmpty y_Str_isEmpty ∈ ob_T := List.mem_filter.mpr ⟨List.mem_of_getElem? (i := 553) (by decide +kernel), by decide +kernel⟩
theorem w_c_Str_charAt : Cond.code y_Str_charAt cb_Str_charAt 2 (some .char) ∈ ob_T := List.mem_filter.mpr ⟨List.mem_of_getElem? (i := 510) (by decide +kernel), by decide +kernel⟩
theorem w_x_Str_charAt : Cond.instanceMethod y_Str_charAt ∈ ob_T := List.mem_filter.mpr ⟨List.mem_of_getElem? (i := 508) (by decide +kernel), by decide +kernel⟩
theorem w_e_Str_charAt : Cond.selects "java/lang/String" y_Str_charAt y_Str_charAt ∈ ob_T := List.mem_filter.mpr ⟨List.mem_of_getElem? (i := 509) (by decide +kernel), by decide +kernel⟩
