def WT : List Cond := lw_tbl.filter goodWord
theorem rk_mem {w : Cond} {i : Nat} (h : lw_tbl[i]? = some w) (g : goodWord w = true) : w ∈ WT := List.mem_filter.mpr ⟨List.mem_of_getElem? h, g⟩
theorem rk_good : GoodIn WT WT := fun w h => ⟨h, good_of_word (List.mem_filter.mp h).2⟩
theorem u_P : ∀ w ∈ u_ws R_P F_P 1, w ∈ WT := fun w h => List.mem_filter.mpr ⟨(by decide +kernel : ∀ w ∈ u_ws R_P F_P 1, w ∈ lw_tbl) w h, (by decide +kernel : ∀ w ∈ u_ws R_P F_P 1, goodWord w = true) w h⟩
theorem u_K : ∀ w ∈ u_ws R_K F_K 9, w ∈ WT := fun w h => List.mem_filter.mpr ⟨(by decide +kernel : ∀ w ∈ u_ws R_K F_K 9, w ∈ lw_tbl) w h, (by decide +kernel : ∀ w ∈ u_ws R_K F_K 9, goodWord w = true) w h⟩
theorem u_M : ∀ w ∈ u_ws R_M F_M 9, w ∈ WT := fun w h => List.mem_filter.mpr ⟨(by decide +kernel : ∀ w ∈ u_ws R_M F_M 9, w ∈ lw_tbl) w h, (by decide +kernel : ∀ w ∈ u_ws R_M F_M 9, goodWord w = true) w h⟩
theorem in_L : (.initialized R_L : Cond) ∈ WT := rk_mem (i := 10) rfl rfl
theorem in_K : (.initialized R_K : Cond) ∈ WT := rk_mem (i := 11) rfl rfl
theorem in_P : (.initialized R_P : Cond) ∈ WT := rk_mem (i := 12) rfl rfl
theorem in_M : (.initialized R_M : Cond) ∈ WT := rk_mem (i := 13) rfl rfl
theorem in_Throwable : (.initialized "java/lang/Throwable" : Cond) ∈ WT := rk_mem (i := 14) rfl rfl
theorem in_Exception : (.initialized "java/lang/Exception" : Cond) ∈ WT := rk_mem (i := 15) rfl rfl
theorem in_RuntimeException : (.initialized "java/lang/RuntimeException" : Cond) ∈ WT := rk_mem (i := 16) rfl rfl
theorem in_IllegalArgumentException : (.initialized "java/lang/IllegalArgumentException" : Cond) ∈ WT := rk_mem (i := 17) rfl rfl
theorem in_IndexOutOfBoundsException : (.initialized "java/lang/IndexOutOfBoundsException" : Cond) ∈ WT := rk_mem (i := 18) rfl rfl
theorem in_IllegalStateException : (.initialized "java/lang/IllegalStateException" : Cond) ∈ WT := rk_mem (i := 19) rfl rfl
theorem in_JI : (.initialized R_JI : Cond) ∈ WT := rk_mem (i := 20) rfl rfl
theorem in_NoSuchElementException : (.initialized "java/util/NoSuchElementException" : Cond) ∈ WT := rk_mem (i := 21) rfl rfl
theorem cl_L_8 : (.classLink R_L 8 R_K : Cond) ∈ WT := rk_mem (i := 22) rfl rfl
theorem it_K : (.instantiable R_K 9 : Cond) ∈ WT := rk_mem (i := 23) rfl rfl
theorem ml_L_43 : (.methodLink R_L 43 y_K_init : Cond) ∈ WT := rk_mem (i := 24) rfl rfl
theorem im_K_init : (.instanceMethod y_K_init : Cond) ∈ WT := rk_mem (i := 25) rfl rfl
theorem ml_K_1 : (.methodLink R_K 1 objectInit : Cond) ∈ WT := rk_mem (i := 27) rfl rfl
theorem im_objectInit : (.instanceMethod objectInit : Cond) ∈ WT := rk_mem (i := 28) rfl rfl
theorem cl_K_23 : (.classLink R_K 23 R_P : Cond) ∈ WT := rk_mem (i := 30) rfl rfl
theorem it_P : (.instantiable R_P 1 : Cond) ∈ WT := rk_mem (i := 31) rfl rfl
theorem ml_K_25 : (.methodLink R_K 25 y_P_init : Cond) ∈ WT := rk_mem (i := 32) rfl rfl
theorem im_P_init : (.instanceMethod y_P_init : Cond) ∈ WT := rk_mem (i := 33) rfl rfl
theorem ml_P_3 : (.methodLink R_P 3 objectInit : Cond) ∈ WT := rk_mem (i := 35) rfl rfl
theorem l_P_9 : (.fieldLink R_P 9 "ReachKeeper$PairSet" "rows" "[I" : Cond) ∈ WT := rk_mem (i := 36) rfl rfl
theorem ac_int : (.arrayClass .int : Cond) ∈ WT := rk_mem (i := 40) rfl rfl
theorem l_K_9 : (.fieldLink R_K 9 "ReachKeeper" "edgeCounts" "[I" : Cond) ∈ WT := rk_mem (i := 41) rfl rfl
theorem l_K_13 : (.fieldLink R_K 13 "ReachKeeper" "gatheredEdges" "[I" : Cond) ∈ WT := rk_mem (i := 42) rfl rfl
theorem l_K_16 : (.fieldLink R_K 16 "ReachKeeper" "gatheredSums" "[I" : Cond) ∈ WT := rk_mem (i := 43) rfl rfl
theorem l_K_19 : (.fieldLink R_K 19 "ReachKeeper" "gatheredSize" "I" : Cond) ∈ WT := rk_mem (i := 44) rfl rfl
theorem l_K_26 : (.fieldLink R_K 26 "ReachKeeper" "edges" "LReachKeeper$PairSet;" : Cond) ∈ WT := rk_mem (i := 45) rfl rfl
theorem l_K_30 : (.fieldLink R_K 30 "ReachKeeper" "holding" "LReachKeeper$PairSet;" : Cond) ∈ WT := rk_mem (i := 46) rfl rfl
theorem l_K_33 : (.fieldLink R_K 33 "ReachKeeper" "heldBefore" "LReachKeeper$PairSet;" : Cond) ∈ WT := rk_mem (i := 47) rfl rfl
theorem l_K_36 : (.fieldLink R_K 36 "ReachKeeper" "newlyHolding" "LReachKeeper$PairSet;" : Cond) ∈ WT := rk_mem (i := 48) rfl rfl
theorem l_K_39 : (.fieldLink R_K 39 "ReachKeeper" "noLongerHolding" "LReachKeeper$PairSet;" : Cond) ∈ WT := rk_mem (i := 49) rfl rfl
theorem ml_L_56 : (.methodLink R_L 56 y_K_forget : Cond) ∈ WT := rk_mem (i := 69) rfl rfl
theorem im_K_forget : (.instanceMethod y_K_forget : Cond) ∈ WT := rk_mem (i := 70) rfl rfl
theorem se_K_forget : (.selects R_K y_K_forget y_K_forget : Cond) ∈ WT := rk_mem (i := 71) rfl rfl
theorem ml_K_57 : (.methodLink R_K 57 y_K_clearGathered : Cond) ∈ WT := rk_mem (i := 73) rfl rfl
theorem im_K_clearGathered : (.instanceMethod y_K_clearGathered : Cond) ∈ WT := rk_mem (i := 75) rfl rfl
theorem ml_L_81 : (.methodLink R_L 81 y_K_count : Cond) ∈ WT := rk_mem (i := 77) rfl rfl
theorem im_K_count : (.instanceMethod y_K_count : Cond) ∈ WT := rk_mem (i := 78) rfl rfl
theorem se_K_count : (.selects R_K y_K_count y_K_count : Cond) ∈ WT := rk_mem (i := 79) rfl rfl
theorem ml_K_75 : (.methodLink R_K 75 y_P_size : Cond) ∈ WT := rk_mem (i := 81) rfl rfl
theorem im_P_size : (.instanceMethod y_P_size : Cond) ∈ WT := rk_mem (i := 82) rfl rfl
theorem se_P_size : (.selects R_P y_P_size y_P_size : Cond) ∈ WT := rk_mem (i := 83) rfl rfl
theorem ml_P_19 : (.methodLink R_P 19 y_JI_bitCount : Cond) ∈ WT := rk_mem (i := 85) rfl rfl
theorem st_JI_bitCount : (.static y_JI_bitCount : Cond) ∈ WT := rk_mem (i := 86) rfl rfl
theorem k_JI_265 : (.constant R_JI 265 1431655765 : Cond) ∈ WT := rk_mem (i := 88) rfl rfl
theorem k_JI_266 : (.constant R_JI 266 858993459 : Cond) ∈ WT := rk_mem (i := 89) rfl rfl
theorem k_JI_267 : (.constant R_JI 267 252645135 : Cond) ∈ WT := rk_mem (i := 90) rfl rfl
theorem ml_K_98 : (.methodLink R_K 98 y_K_sumOfCounts : Cond) ∈ WT := rk_mem (i := 91) rfl rfl
theorem im_K_sumOfCounts : (.instanceMethod y_K_sumOfCounts : Cond) ∈ WT := rk_mem (i := 93) rfl rfl
theorem ml_K_101 : (.methodLink R_K 101 y_P_loops : Cond) ∈ WT := rk_mem (i := 95) rfl rfl
theorem im_P_loops : (.instanceMethod y_P_loops : Cond) ∈ WT := rk_mem (i := 96) rfl rfl
theorem se_P_loops : (.selects R_P y_P_loops y_P_loops : Cond) ∈ WT := rk_mem (i := 97) rfl rfl
theorem ml_P_32 : (.methodLink R_P 32 y_P_has : Cond) ∈ WT := rk_mem (i := 99) rfl rfl
theorem im_P_has : (.instanceMethod y_P_has : Cond) ∈ WT := rk_mem (i := 100) rfl rfl
theorem se_P_has : (.selects R_P y_P_has y_P_has : Cond) ∈ WT := rk_mem (i := 101) rfl rfl
theorem ml_P_15 : (.methodLink R_P 15 y_P_hasBit : Cond) ∈ WT := rk_mem (i := 103) rfl rfl
theorem st_P_hasBit : (.static y_P_hasBit : Cond) ∈ WT := rk_mem (i := 104) rfl rfl
theorem ml_K_104 : (.methodLink R_K 104 y_P_circles : Cond) ∈ WT := rk_mem (i := 106) rfl rfl
theorem im_P_circles : (.instanceMethod y_P_circles : Cond) ∈ WT := rk_mem (i := 107) rfl rfl
theorem se_P_circles : (.selects R_P y_P_circles y_P_circles : Cond) ∈ WT := rk_mem (i := 108) rfl rfl
theorem ml_P_38 : (.methodLink R_P 38 y_P_hasLowerMate : Cond) ∈ WT := rk_mem (i := 110) rfl rfl
theorem im_P_hasLowerMate : (.instanceMethod y_P_hasLowerMate : Cond) ∈ WT := rk_mem (i := 112) rfl rfl
theorem ml_L_47 : (.methodLink R_L 47 y_L_change : Cond) ∈ WT := rk_mem (i := 114) rfl rfl
theorem st_L_change : (.static y_L_change : Cond) ∈ WT := rk_mem (i := 115) rfl rfl
theorem cl_L_13 : (.classLink R_L 13 "java/lang/IllegalArgumentException" : Cond) ∈ WT := rk_mem (i := 117) rfl rfl
theorem cl_L_15 : (.classLink R_L 15 "java/lang/IndexOutOfBoundsException" : Cond) ∈ WT := rk_mem (i := 118) rfl rfl
theorem ml_L_7 : (.methodLink R_L 7 y_K_change : Cond) ∈ WT := rk_mem (i := 119) rfl rfl
theorem im_K_change : (.instanceMethod y_K_change : Cond) ∈ WT := rk_mem (i := 120) rfl rfl
theorem se_K_change : (.selects R_K y_K_change y_K_change : Cond) ∈ WT := rk_mem (i := 121) rfl rfl
theorem ml_K_42 : (.methodLink R_K 42 y_K_requireVertices : Cond) ∈ WT := rk_mem (i := 123) rfl rfl
theorem st_K_requireVertices : (.static y_K_requireVertices : Cond) ∈ WT := rk_mem (i := 124) rfl rfl
theorem ml_K_107 : (.methodLink R_K 107 y_K_isVertex : Cond) ∈ WT := rk_mem (i := 126) rfl rfl
theorem st_K_isVertex : (.static y_K_isVertex : Cond) ∈ WT := rk_mem (i := 127) rfl rfl
theorem cl_K_111 : (.classLink R_K 111 "java/lang/IllegalArgumentException" : Cond) ∈ WT := rk_mem (i := 129) rfl rfl
theorem ac_byte : (.arrayClass .byte : Cond) ∈ WT := rk_mem (i := 197) rfl rfl
theorem cl_K_46 : (.classLink R_K 46 "java/lang/IndexOutOfBoundsException" : Cond) ∈ WT := rk_mem (i := 198) rfl rfl
theorem ml_K_53 : (.methodLink R_K 53 y_K_numberOf : Cond) ∈ WT := rk_mem (i := 214) rfl rfl
theorem st_K_numberOf : (.static y_K_numberOf : Cond) ∈ WT := rk_mem (i := 215) rfl rfl
theorem ml_L_60 : (.methodLink R_L 60 y_L_apply : Cond) ∈ WT := rk_mem (i := 217) rfl rfl
theorem st_L_apply : (.static y_L_apply : Cond) ∈ WT := rk_mem (i := 218) rfl rfl
theorem cl_L_21 : (.classLink R_L 21 "java/lang/IllegalStateException" : Cond) ∈ WT := rk_mem (i := 220) rfl rfl
theorem ml_L_17 : (.methodLink R_L 17 y_K_apply : Cond) ∈ WT := rk_mem (i := 221) rfl rfl
theorem im_K_apply : (.instanceMethod y_K_apply : Cond) ∈ WT := rk_mem (i := 222) rfl rfl
theorem se_K_apply : (.selects R_K y_K_apply y_K_apply : Cond) ∈ WT := rk_mem (i := 223) rfl rfl
theorem ml_K_60 : (.methodLink R_K 60 y_K_gatheredConflicts : Cond) ∈ WT := rk_mem (i := 225) rfl rfl
theorem im_K_gatheredConflicts : (.instanceMethod y_K_gatheredConflicts : Cond) ∈ WT := rk_mem (i := 227) rfl rfl
theorem cl_K_64 : (.classLink R_K 64 "java/lang/IllegalStateException" : Cond) ∈ WT := rk_mem (i := 229) rfl rfl
theorem ml_K_69 : (.methodLink R_K 69 y_K_addGatheredToCounts : Cond) ∈ WT := rk_mem (i := 245) rfl rfl
theorem im_K_addGatheredToCounts : (.instanceMethod y_K_addGatheredToCounts : Cond) ∈ WT := rk_mem (i := 247) rfl rfl
theorem ml_K_118 : (.methodLink R_K 118 y_P_put : Cond) ∈ WT := rk_mem (i := 249) rfl rfl
theorem im_P_put : (.instanceMethod y_P_put : Cond) ∈ WT := rk_mem (i := 250) rfl rfl
theorem se_P_put : (.selects R_P y_P_put y_P_put : Cond) ∈ WT := rk_mem (i := 251) rfl rfl
theorem ml_K_72 : (.methodLink R_K 72 y_K_followEdges : Cond) ∈ WT := rk_mem (i := 253) rfl rfl
theorem im_K_followEdges : (.instanceMethod y_K_followEdges : Cond) ∈ WT := rk_mem (i := 255) rfl rfl
theorem ml_K_122 : (.methodLink R_K 122 y_P_copyFrom : Cond) ∈ WT := rk_mem (i := 257) rfl rfl
theorem im_P_copyFrom : (.instanceMethod y_P_copyFrom : Cond) ∈ WT := rk_mem (i := 258) rfl rfl
theorem se_P_copyFrom : (.selects R_P y_P_copyFrom y_P_copyFrom : Cond) ∈ WT := rk_mem (i := 259) rfl rfl
theorem ml_K_126 : (.methodLink R_K 126 y_P_joinWays : Cond) ∈ WT := rk_mem (i := 261) rfl rfl
theorem im_P_joinWays : (.instanceMethod y_P_joinWays : Cond) ∈ WT := rk_mem (i := 262) rfl rfl
theorem se_P_joinWays : (.selects R_P y_P_joinWays y_P_joinWays : Cond) ∈ WT := rk_mem (i := 263) rfl rfl
theorem ml_K_129 : (.methodLink R_K 129 y_P_becomeDifference : Cond) ∈ WT := rk_mem (i := 265) rfl rfl
theorem im_P_becomeDifference : (.instanceMethod y_P_becomeDifference : Cond) ∈ WT := rk_mem (i := 266) rfl rfl
theorem se_P_becomeDifference : (.selects R_P y_P_becomeDifference y_P_becomeDifference : Cond) ∈ WT := rk_mem (i := 267) rfl rfl
theorem ml_L_64 : (.methodLink R_L 64 y_L_holds : Cond) ∈ WT := rk_mem (i := 269) rfl rfl
theorem st_L_holds : (.static y_L_holds : Cond) ∈ WT := rk_mem (i := 270) rfl rfl
theorem ml_L_23 : (.methodLink R_L 23 y_K_holds : Cond) ∈ WT := rk_mem (i := 272) rfl rfl
theorem im_K_holds : (.instanceMethod y_K_holds : Cond) ∈ WT := rk_mem (i := 273) rfl rfl
theorem se_K_holds : (.selects R_K y_K_holds y_K_holds : Cond) ∈ WT := rk_mem (i := 274) rfl rfl
theorem ml_K_79 : (.methodLink R_K 79 y_P_has : Cond) ∈ WT := rk_mem (i := 276) rfl rfl
theorem ml_L_68 : (.methodLink R_L 68 y_L_came : Cond) ∈ WT := rk_mem (i := 277) rfl rfl
theorem st_L_came : (.static y_L_came : Cond) ∈ WT := rk_mem (i := 278) rfl rfl
theorem cl_L_31 : (.classLink R_L 31 "java/util/NoSuchElementException" : Cond) ∈ WT := rk_mem (i := 280) rfl rfl
theorem ml_L_27 : (.methodLink R_L 27 y_K_came : Cond) ∈ WT := rk_mem (i := 281) rfl rfl
theorem im_K_came : (.instanceMethod y_K_came : Cond) ∈ WT := rk_mem (i := 282) rfl rfl
theorem se_K_came : (.selects R_K y_K_came y_K_came : Cond) ∈ WT := rk_mem (i := 283) rfl rfl
theorem ml_K_83 : (.methodLink R_K 83 y_P_pairAt : Cond) ∈ WT := rk_mem (i := 285) rfl rfl
theorem im_P_pairAt : (.instanceMethod y_P_pairAt : Cond) ∈ WT := rk_mem (i := 286) rfl rfl
theorem se_P_pairAt : (.selects R_P y_P_pairAt y_P_pairAt : Cond) ∈ WT := rk_mem (i := 287) rfl rfl
theorem ml_P_25 : (.methodLink R_P 25 y_P_bitAt : Cond) ∈ WT := rk_mem (i := 289) rfl rfl
theorem st_P_bitAt : (.static y_P_bitAt : Cond) ∈ WT := rk_mem (i := 290) rfl rfl
theorem ml_K_87 : (.methodLink R_K 87 y_K_requirePair : Cond) ∈ WT := rk_mem (i := 293) rfl rfl
theorem st_K_requirePair : (.static y_K_requirePair : Cond) ∈ WT := rk_mem (i := 294) rfl rfl
theorem cl_K_93 : (.classLink R_K 93 "java/util/NoSuchElementException" : Cond) ∈ WT := rk_mem (i := 296) rfl rfl
theorem ml_L_72 : (.methodLink R_L 72 y_L_went : Cond) ∈ WT := rk_mem (i := 312) rfl rfl
theorem st_L_went : (.static y_L_went : Cond) ∈ WT := rk_mem (i := 313) rfl rfl
theorem ml_L_33 : (.methodLink R_L 33 y_K_went : Cond) ∈ WT := rk_mem (i := 315) rfl rfl
theorem im_K_went : (.instanceMethod y_K_went : Cond) ∈ WT := rk_mem (i := 316) rfl rfl
theorem se_K_went : (.selects R_K y_K_went y_K_went : Cond) ∈ WT := rk_mem (i := 317) rfl rfl
theorem ml_L_75 : (.methodLink R_L 75 y_L_distance : Cond) ∈ WT := rk_mem (i := 319) rfl rfl
theorem st_L_distance : (.static y_L_distance : Cond) ∈ WT := rk_mem (i := 320) rfl rfl
theorem ml_L_36 : (.methodLink R_L 36 y_K_distance : Cond) ∈ WT := rk_mem (i := 322) rfl rfl
theorem im_K_distance : (.instanceMethod y_K_distance : Cond) ∈ WT := rk_mem (i := 323) rfl rfl
theorem se_K_distance : (.selects R_K y_K_distance y_K_distance : Cond) ∈ WT := rk_mem (i := 324) rfl rfl
theorem ml_K_90 : (.methodLink R_K 90 y_P_shortestWay : Cond) ∈ WT := rk_mem (i := 326) rfl rfl
theorem im_P_shortestWay : (.instanceMethod y_P_shortestWay : Cond) ∈ WT := rk_mem (i := 327) rfl rfl
theorem se_P_shortestWay : (.selects R_P y_P_shortestWay y_P_shortestWay : Cond) ∈ WT := rk_mem (i := 328) rfl rfl
theorem ml_P_35 : (.methodLink R_P 35 y_P_oneStepFrom : Cond) ∈ WT := rk_mem (i := 330) rfl rfl
theorem im_P_oneStepFrom : (.instanceMethod y_P_oneStepFrom : Cond) ∈ WT := rk_mem (i := 332) rfl rfl
theorem ml_L_78 : (.methodLink R_L 78 y_L_times : Cond) ∈ WT := rk_mem (i := 335) rfl rfl
theorem st_L_times : (.static y_L_times : Cond) ∈ WT := rk_mem (i := 336) rfl rfl
theorem ml_L_40 : (.methodLink R_L 40 y_K_times : Cond) ∈ WT := rk_mem (i := 338) rfl rfl
theorem im_K_times : (.instanceMethod y_K_times : Cond) ∈ WT := rk_mem (i := 339) rfl rfl
theorem se_K_times : (.selects R_K y_K_times y_K_times : Cond) ∈ WT := rk_mem (i := 340) rfl rfl
theorem cl_L_44 : (.classLink R_L 44 R_M : Cond) ∈ WT := rk_mem (i := 342) rfl rfl
theorem it_M : (.instantiable R_M 9 : Cond) ∈ WT := rk_mem (i := 343) rfl rfl
theorem ml_L_46 : (.methodLink R_L 46 y_M_init : Cond) ∈ WT := rk_mem (i := 344) rfl rfl
theorem im_M_init : (.instanceMethod y_M_init : Cond) ∈ WT := rk_mem (i := 345) rfl rfl
theorem ml_M_1 : (.methodLink R_M 1 objectInit : Cond) ∈ WT := rk_mem (i := 347) rfl rfl
theorem l_M_32 : (.fieldLink R_M 32 "ReachKeeperModel" "thrown" "I" : Cond) ∈ WT := rk_mem (i := 348) rfl rfl
theorem l_M_40 : (.fieldLink R_M 40 "ReachKeeperModel" "gathered" "I" : Cond) ∈ WT := rk_mem (i := 349) rfl rfl
theorem l_M_9 : (.fieldLink R_M 9 "ReachKeeperModel" "times" "[I" : Cond) ∈ WT := rk_mem (i := 350) rfl rfl
theorem l_M_13 : (.fieldLink R_M 13 "ReachKeeperModel" "then" "[I" : Cond) ∈ WT := rk_mem (i := 351) rfl rfl
theorem l_M_16 : (.fieldLink R_M 16 "ReachKeeperModel" "place" "[I" : Cond) ∈ WT := rk_mem (i := 352) rfl rfl
theorem l_M_19 : (.fieldLink R_M 19 "ReachKeeperModel" "by" "[I" : Cond) ∈ WT := rk_mem (i := 353) rfl rfl
theorem l_M_22 : (.fieldLink R_M 22 "ReachKeeperModel" "far" "[I" : Cond) ∈ WT := rk_mem (i := 354) rfl rfl
theorem l_M_25 : (.fieldLink R_M 25 "ReachKeeperModel" "holds" "[Z" : Cond) ∈ WT := rk_mem (i := 355) rfl rfl
theorem l_M_29 : (.fieldLink R_M 29 "ReachKeeperModel" "held" "[Z" : Cond) ∈ WT := rk_mem (i := 356) rfl rfl
theorem ac_boolean : (.arrayClass .boolean : Cond) ∈ WT := rk_mem (i := 376) rfl rfl
theorem ml_L_53 : (.methodLink R_L 53 y_M_thrown : Cond) ∈ WT := rk_mem (i := 377) rfl rfl
theorem im_M_thrown : (.instanceMethod y_M_thrown : Cond) ∈ WT := rk_mem (i := 378) rfl rfl
theorem se_M_thrown : (.selects R_M y_M_thrown y_M_thrown : Cond) ∈ WT := rk_mem (i := 379) rfl rfl
theorem ml_L_52 : (.methodLink R_L 52 y_M_change : Cond) ∈ WT := rk_mem (i := 381) rfl rfl
theorem im_M_change : (.instanceMethod y_M_change : Cond) ∈ WT := rk_mem (i := 382) rfl rfl
theorem se_M_change : (.selects R_M y_M_change y_M_change : Cond) ∈ WT := rk_mem (i := 383) rfl rfl
theorem ml_M_36 : (.methodLink R_M 36 y_M_isVertex : Cond) ∈ WT := rk_mem (i := 385) rfl rfl
theorem st_M_isVertex : (.static y_M_isVertex : Cond) ∈ WT := rk_mem (i := 386) rfl rfl
theorem ml_L_59 : (.methodLink R_L 59 y_M_forget : Cond) ∈ WT := rk_mem (i := 388) rfl rfl
theorem im_M_forget : (.instanceMethod y_M_forget : Cond) ∈ WT := rk_mem (i := 389) rfl rfl
theorem se_M_forget : (.selects R_M y_M_forget y_M_forget : Cond) ∈ WT := rk_mem (i := 390) rfl rfl
theorem ml_L_63 : (.methodLink R_L 63 y_M_apply : Cond) ∈ WT := rk_mem (i := 392) rfl rfl
theorem im_M_apply : (.instanceMethod y_M_apply : Cond) ∈ WT := rk_mem (i := 393) rfl rfl
theorem se_M_apply : (.selects R_M y_M_apply y_M_apply : Cond) ∈ WT := rk_mem (i := 394) rfl rfl
theorem ml_M_43 : (.methodLink R_M 43 y_M_many : Cond) ∈ WT := rk_mem (i := 396) rfl rfl
theorem im_M_many : (.instanceMethod y_M_many : Cond) ∈ WT := rk_mem (i := 398) rfl rfl
theorem ml_L_67 : (.methodLink R_L 67 y_M_holds : Cond) ∈ WT := rk_mem (i := 400) rfl rfl
theorem im_M_holds : (.instanceMethod y_M_holds : Cond) ∈ WT := rk_mem (i := 401) rfl rfl
theorem se_M_holds : (.selects R_M y_M_holds y_M_holds : Cond) ∈ WT := rk_mem (i := 402) rfl rfl
theorem ml_L_71 : (.methodLink R_L 71 y_M_came : Cond) ∈ WT := rk_mem (i := 404) rfl rfl
theorem im_M_came : (.instanceMethod y_M_came : Cond) ∈ WT := rk_mem (i := 405) rfl rfl
theorem se_M_came : (.selects R_M y_M_came y_M_came : Cond) ∈ WT := rk_mem (i := 406) rfl rfl
theorem ml_M_47 : (.methodLink R_M 47 y_M_other : Cond) ∈ WT := rk_mem (i := 408) rfl rfl
theorem im_M_other : (.instanceMethod y_M_other : Cond) ∈ WT := rk_mem (i := 410) rfl rfl
theorem ml_L_74 : (.methodLink R_L 74 y_M_went : Cond) ∈ WT := rk_mem (i := 412) rfl rfl
theorem im_M_went : (.instanceMethod y_M_went : Cond) ∈ WT := rk_mem (i := 413) rfl rfl
theorem se_M_went : (.selects R_M y_M_went y_M_went : Cond) ∈ WT := rk_mem (i := 414) rfl rfl
theorem ml_L_77 : (.methodLink R_L 77 y_M_distance : Cond) ∈ WT := rk_mem (i := 416) rfl rfl
theorem im_M_distance : (.instanceMethod y_M_distance : Cond) ∈ WT := rk_mem (i := 417) rfl rfl
theorem se_M_distance : (.selects R_M y_M_distance y_M_distance : Cond) ∈ WT := rk_mem (i := 418) rfl rfl
theorem ml_L_80 : (.methodLink R_L 80 y_M_times : Cond) ∈ WT := rk_mem (i := 420) rfl rfl
theorem im_M_times : (.instanceMethod y_M_times : Cond) ∈ WT := rk_mem (i := 421) rfl rfl
theorem se_M_times : (.selects R_M y_M_times y_M_times : Cond) ∈ WT := rk_mem (i := 422) rfl rfl
theorem ml_L_84 : (.methodLink R_L 84 y_M_count : Cond) ∈ WT := rk_mem (i := 424) rfl rfl
theorem im_M_count : (.instanceMethod y_M_count : Cond) ∈ WT := rk_mem (i := 425) rfl rfl
theorem se_M_count : (.selects R_M y_M_count y_M_count : Cond) ∈ WT := rk_mem (i := 426) rfl rfl
theorem ac_long : (.arrayClass .long : Cond) ∈ WT := rk_mem (i := 428) rfl rfl
theorem co_objectInit : (.code objectInit ⟨#[0xb1]⟩ 1 none : Cond) ∈ WT := rk_mem (i := 29) rfl rfl
theorem se_K_clearGathered : (.selects R_K y_K_clearGathered y_K_clearGathered : Cond) ∈ WT := rk_mem (i := 0) rfl rfl
theorem se_K_sumOfCounts : (.selects R_K y_K_sumOfCounts y_K_sumOfCounts : Cond) ∈ WT := rk_mem (i := 1) rfl rfl
theorem se_P_hasLowerMate : (.selects R_P y_P_hasLowerMate y_P_hasLowerMate : Cond) ∈ WT := rk_mem (i := 2) rfl rfl
theorem se_K_gatheredConflicts : (.selects R_K y_K_gatheredConflicts y_K_gatheredConflicts : Cond) ∈ WT := rk_mem (i := 4) rfl rfl
theorem se_K_addGatheredToCounts : (.selects R_K y_K_addGatheredToCounts y_K_addGatheredToCounts : Cond) ∈ WT := rk_mem (i := 5) rfl rfl
theorem se_K_followEdges : (.selects R_K y_K_followEdges y_K_followEdges : Cond) ∈ WT := rk_mem (i := 6) rfl rfl
theorem se_P_oneStepFrom : (.selects R_P y_P_oneStepFrom y_P_oneStepFrom : Cond) ∈ WT := rk_mem (i := 7) rfl rfl
theorem se_M_many : (.selects R_M y_M_many y_M_many : Cond) ∈ WT := rk_mem (i := 8) rfl rfl
theorem se_M_other : (.selects R_M y_M_other y_M_other : Cond) ∈ WT := rk_mem (i := 9) rfl rfl
theorem co_P_init : (.code y_P_init b_P_init 1 none : Cond) ∈ WT := rk_mem (i := 34) rfl rfl
theorem co_P_has : (.code y_P_has b_P_has 3 (some .boolean) : Cond) ∈ WT := rk_mem (i := 102) rfl rfl
theorem co_P_put : (.code y_P_put b_P_put 4 none : Cond) ∈ WT := rk_mem (i := 252) rfl rfl
theorem co_P_copyFrom : (.code y_P_copyFrom b_P_copyFrom 3 none : Cond) ∈ WT := rk_mem (i := 260) rfl rfl
theorem co_P_becomeDifference : (.code y_P_becomeDifference b_P_becomeDifference 4 none : Cond) ∈ WT := rk_mem (i := 268) rfl rfl
theorem co_P_size : (.code y_P_size b_P_size 3 (some .int) : Cond) ∈ WT := rk_mem (i := 84) rfl rfl
theorem co_P_pairAt : (.code y_P_pairAt b_P_pairAt 5 (some .int) : Cond) ∈ WT := rk_mem (i := 288) rfl rfl
theorem co_P_joinWays : (.code y_P_joinWays b_P_joinWays 3 none : Cond) ∈ WT := rk_mem (i := 264) rfl rfl
theorem co_P_shortestWay : (.code y_P_shortestWay b_P_shortestWay 5 (some .int) : Cond) ∈ WT := rk_mem (i := 329) rfl rfl
theorem co_P_loops : (.code y_P_loops b_P_loops 3 (some .int) : Cond) ∈ WT := rk_mem (i := 98) rfl rfl
theorem co_P_circles : (.code y_P_circles b_P_circles 3 (some .int) : Cond) ∈ WT := rk_mem (i := 109) rfl rfl
theorem co_P_hasLowerMate : (.code y_P_hasLowerMate b_P_hasLowerMate 3 (some .boolean) : Cond) ∈ WT := rk_mem (i := 113) rfl rfl
theorem co_P_oneStepFrom : (.code y_P_oneStepFrom b_P_oneStepFrom 4 (some .int) : Cond) ∈ WT := rk_mem (i := 333) rfl rfl
theorem co_P_hasBit : (.code y_P_hasBit b_P_hasBit 2 (some .boolean) : Cond) ∈ WT := rk_mem (i := 105) rfl rfl
theorem co_P_bitAt : (.code y_P_bitAt b_P_bitAt 4 (some .int) : Cond) ∈ WT := rk_mem (i := 291) rfl rfl
theorem co_K_init : (.code y_K_init b_K_init 1 none : Cond) ∈ WT := rk_mem (i := 26) rfl rfl
theorem co_K_change : (.code y_K_change b_K_change 5 (some .int) : Cond) ∈ WT := rk_mem (i := 122) rfl rfl
theorem co_K_forget : (.code y_K_forget b_K_forget 2 (some .int) : Cond) ∈ WT := rk_mem (i := 72) rfl rfl
theorem co_K_apply : (.code y_K_apply b_K_apply 1 (some .int) : Cond) ∈ WT := rk_mem (i := 224) rfl rfl
theorem co_K_holds : (.code y_K_holds b_K_holds 3 (some .boolean) : Cond) ∈ WT := rk_mem (i := 275) rfl rfl
theorem co_K_came : (.code y_K_came b_K_came 2 (some .int) : Cond) ∈ WT := rk_mem (i := 284) rfl rfl
theorem co_K_went : (.code y_K_went b_K_went 2 (some .int) : Cond) ∈ WT := rk_mem (i := 318) rfl rfl
theorem co_K_distance : (.code y_K_distance b_K_distance 4 (some .int) : Cond) ∈ WT := rk_mem (i := 325) rfl rfl
theorem co_K_times : (.code y_K_times b_K_times 3 (some .int) : Cond) ∈ WT := rk_mem (i := 341) rfl rfl
theorem co_K_count : (.code y_K_count b_K_count 2 (some .int) : Cond) ∈ WT := rk_mem (i := 80) rfl rfl
theorem co_K_isVertex : (.code y_K_isVertex b_K_isVertex 1 (some .boolean) : Cond) ∈ WT := rk_mem (i := 128) rfl rfl
theorem co_K_requireVertices : (.code y_K_requireVertices b_K_requireVertices 2 none : Cond) ∈ WT := rk_mem (i := 125) rfl rfl
theorem co_K_requirePair : (.code y_K_requirePair b_K_requirePair 1 (some .int) : Cond) ∈ WT := rk_mem (i := 295) rfl rfl
theorem co_K_numberOf : (.code y_K_numberOf b_K_numberOf 2 (some .int) : Cond) ∈ WT := rk_mem (i := 216) rfl rfl
theorem co_K_gatheredConflicts : (.code y_K_gatheredConflicts b_K_gatheredConflicts 3 (some .boolean) : Cond) ∈ WT := rk_mem (i := 228) rfl rfl
theorem co_K_addGatheredToCounts : (.code y_K_addGatheredToCounts b_K_addGatheredToCounts 3 none : Cond) ∈ WT := rk_mem (i := 248) rfl rfl
theorem co_K_clearGathered : (.code y_K_clearGathered b_K_clearGathered 2 none : Cond) ∈ WT := rk_mem (i := 76) rfl rfl
theorem co_K_followEdges : (.code y_K_followEdges b_K_followEdges 1 none : Cond) ∈ WT := rk_mem (i := 256) rfl rfl
theorem co_K_sumOfCounts : (.code y_K_sumOfCounts b_K_sumOfCounts 3 (some .int) : Cond) ∈ WT := rk_mem (i := 94) rfl rfl
theorem co_M_init : (.code y_M_init b_M_init 1 none : Cond) ∈ WT := rk_mem (i := 346) rfl rfl
theorem co_M_thrown : (.code y_M_thrown b_M_thrown 1 (some .int) : Cond) ∈ WT := rk_mem (i := 380) rfl rfl
theorem co_M_isVertex : (.code y_M_isVertex b_M_isVertex 1 (some .boolean) : Cond) ∈ WT := rk_mem (i := 387) rfl rfl
theorem co_M_change : (.code y_M_change b_M_change 4 (some .int) : Cond) ∈ WT := rk_mem (i := 384) rfl rfl
theorem co_M_forget : (.code y_M_forget b_M_forget 2 (some .int) : Cond) ∈ WT := rk_mem (i := 391) rfl rfl
theorem co_M_apply : (.code y_M_apply b_M_apply 4 (some .int) : Cond) ∈ WT := rk_mem (i := 395) rfl rfl
theorem co_M_many : (.code y_M_many b_M_many 4 (some .int) : Cond) ∈ WT := rk_mem (i := 399) rfl rfl
theorem co_M_holds : (.code y_M_holds b_M_holds 3 (some .boolean) : Cond) ∈ WT := rk_mem (i := 403) rfl rfl
theorem co_M_other : (.code y_M_other b_M_other 5 (some .int) : Cond) ∈ WT := rk_mem (i := 411) rfl rfl
theorem co_M_came : (.code y_M_came b_M_came 2 (some .int) : Cond) ∈ WT := rk_mem (i := 407) rfl rfl
theorem co_M_went : (.code y_M_went b_M_went 2 (some .int) : Cond) ∈ WT := rk_mem (i := 415) rfl rfl
theorem co_M_distance : (.code y_M_distance b_M_distance 6 (some .int) : Cond) ∈ WT := rk_mem (i := 419) rfl rfl
theorem co_M_times : (.code y_M_times b_M_times 3 (some .int) : Cond) ∈ WT := rk_mem (i := 423) rfl rfl
theorem co_M_count : (.code y_M_count b_M_count 10 (some .int) : Cond) ∈ WT := rk_mem (i := 427) rfl rfl
theorem co_L_change : (.codeWith y_L_change b_L_change 6 (some .int) [(0, 12, 15, 13), (0, 12, 19, 15)] : Cond) ∈ WT := rk_mem (i := 116) rfl rfl
theorem co_L_apply : (.codeWith y_L_apply b_L_apply 3 (some .int) [(0, 8, 11, 21)] : Cond) ∈ WT := rk_mem (i := 219) rfl rfl
theorem co_L_holds : (.codeWith y_L_holds b_L_holds 5 (some .int) [(0, 17, 20, 13)] : Cond) ∈ WT := rk_mem (i := 271) rfl rfl
theorem co_L_came : (.codeWith y_L_came b_L_came 4 (some .int) [(0, 9, 12, 31)] : Cond) ∈ WT := rk_mem (i := 279) rfl rfl
theorem co_L_went : (.codeWith y_L_went b_L_went 4 (some .int) [(0, 9, 12, 31)] : Cond) ∈ WT := rk_mem (i := 314) rfl rfl
theorem co_L_distance : (.codeWith y_L_distance b_L_distance 5 (some .int) [(0, 10, 13, 13), (0, 10, 17, 31)] : Cond) ∈ WT := rk_mem (i := 321) rfl rfl
theorem co_L_times : (.codeWith y_L_times b_L_times 5 (some .int) [(0, 10, 13, 13)] : Cond) ∈ WT := rk_mem (i := 337) rfl rfl
theorem co_JI_bitCount : (.code y_JI_bitCount b_JI_bitCount 1 (some .int) : Cond) ∈ WT := rk_mem (i := 87) rfl rfl
