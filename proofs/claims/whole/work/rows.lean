section
-- ===== PART A: goes FIRST, ahead of the names: the tables' words, and 'selects' of the private methods out of them =====
/-- a private method of a class that the tables say can be made, by its rows of tables_1 -/
def lw_okq (q : MethodName × Nat) : Prop := (q.1.cls ≠ "java/lang/invoke/MethodHandle" ∧ q.1.cls ≠ "java/lang/invoke/VarHandle") ∧ Cond.instantiable q.1.cls q.2 ∈ tables_1 ∧ Cond.privateMethod q.1 ∈ tables_1 ∧ Cond.instanceMethod q.1 ∈ tables_1
theorem lw_p0 : lw_okq (⟨"ReachKeeper", "clearGathered", "()V"⟩, 9) := ⟨⟨by decide +kernel, by decide +kernel⟩, List.mem_of_getElem? (i := 13) (by decide +kernel), List.mem_of_getElem? (i := 64) (by decide +kernel), List.mem_of_getElem? (i := 65) (by decide +kernel)⟩
theorem lw_p1 : lw_okq (⟨"ReachKeeper", "sumOfCounts", "()I"⟩, 9) := ⟨⟨by decide +kernel, by decide +kernel⟩, List.mem_of_getElem? (i := 13) (by decide +kernel), List.mem_of_getElem? (i := 82) (by decide +kernel), List.mem_of_getElem? (i := 83) (by decide +kernel)⟩
theorem lw_p2 : lw_okq (⟨"ReachKeeper$PairSet", "hasLowerMate", "(I)Z"⟩, 1) := ⟨⟨by decide +kernel, by decide +kernel⟩, List.mem_of_getElem? (i := 21) (by decide +kernel), List.mem_of_getElem? (i := 101) (by decide +kernel), List.mem_of_getElem? (i := 102) (by decide +kernel)⟩
theorem lw_p3 : lw_okq (⟨"java/lang/Throwable", "fillInStackTrace", "(I)Ljava/lang/Throwable;"⟩, 6) := ⟨⟨by decide +kernel, by decide +kernel⟩, List.mem_of_getElem? (i := 159) (by decide +kernel), List.mem_of_getElem? (i := 157) (by decide +kernel), List.mem_of_getElem? (i := 158) (by decide +kernel)⟩
theorem lw_p4 : lw_okq (⟨"ReachKeeper", "gatheredConflicts", "()Z"⟩, 9) := ⟨⟨by decide +kernel, by decide +kernel⟩, List.mem_of_getElem? (i := 13) (by decide +kernel), List.mem_of_getElem? (i := 216) (by decide +kernel), List.mem_of_getElem? (i := 217) (by decide +kernel)⟩
theorem lw_p5 : lw_okq (⟨"ReachKeeper", "addGatheredToCounts", "()V"⟩, 9) := ⟨⟨by decide +kernel, by decide +kernel⟩, List.mem_of_getElem? (i := 13) (by decide +kernel), List.mem_of_getElem? (i := 236) (by decide +kernel), List.mem_of_getElem? (i := 237) (by decide +kernel)⟩
theorem lw_p6 : lw_okq (⟨"ReachKeeper", "followEdges", "()V"⟩, 9) := ⟨⟨by decide +kernel, by decide +kernel⟩, List.mem_of_getElem? (i := 13) (by decide +kernel), List.mem_of_getElem? (i := 244) (by decide +kernel), List.mem_of_getElem? (i := 245) (by decide +kernel)⟩
theorem lw_p7 : lw_okq (⟨"ReachKeeper$PairSet", "oneStepFrom", "(I)I"⟩, 1) := ⟨⟨by decide +kernel, by decide +kernel⟩, List.mem_of_getElem? (i := 21) (by decide +kernel), List.mem_of_getElem? (i := 321) (by decide +kernel), List.mem_of_getElem? (i := 322) (by decide +kernel)⟩
theorem lw_p8 : lw_okq (⟨"ReachKeeperModel", "many", "(Z)I"⟩, 9) := ⟨⟨by decide +kernel, by decide +kernel⟩, List.mem_of_getElem? (i := 333) (by decide +kernel), List.mem_of_getElem? (i := 387) (by decide +kernel), List.mem_of_getElem? (i := 388) (by decide +kernel)⟩
theorem lw_p9 : lw_okq (⟨"ReachKeeperModel", "other", "(IZ)I"⟩, 9) := ⟨⟨by decide +kernel, by decide +kernel⟩, List.mem_of_getElem? (i := 333) (by decide +kernel), List.mem_of_getElem? (i := 399) (by decide +kernel), List.mem_of_getElem? (i := 400) (by decide +kernel)⟩
def lw_privs_1 : List (MethodName × Nat) := [(⟨"ReachKeeper", "clearGathered", "()V"⟩, 9), (⟨"ReachKeeper", "sumOfCounts", "()I"⟩, 9), (⟨"ReachKeeper$PairSet", "hasLowerMate", "(I)Z"⟩, 1), (⟨"java/lang/Throwable", "fillInStackTrace", "(I)Ljava/lang/Throwable;"⟩, 6), (⟨"ReachKeeper", "gatheredConflicts", "()Z"⟩, 9), (⟨"ReachKeeper", "addGatheredToCounts", "()V"⟩, 9), (⟨"ReachKeeper", "followEdges", "()V"⟩, 9), (⟨"ReachKeeper$PairSet", "oneStepFrom", "(I)I"⟩, 1), (⟨"ReachKeeperModel", "many", "(Z)I"⟩, 9), (⟨"ReachKeeperModel", "other", "(IZ)I"⟩, 9)]
theorem lw_r1 : ∀ q ∈ lw_privs_1, lw_okq q := List.forall_mem_cons.mpr ⟨lw_p0, List.forall_mem_cons.mpr ⟨lw_p1, List.forall_mem_cons.mpr ⟨lw_p2, List.forall_mem_cons.mpr ⟨lw_p3, List.forall_mem_cons.mpr ⟨lw_p4, List.forall_mem_cons.mpr ⟨lw_p5, List.forall_mem_cons.mpr ⟨lw_p6, List.forall_mem_cons.mpr ⟨lw_p7, List.forall_mem_cons.mpr ⟨lw_p8, List.forall_mem_cons.mpr ⟨lw_p9, fun _ h => absurd h List.not_mem_nil⟩⟩⟩⟩⟩⟩⟩⟩⟩⟩
def lw_privs : List (MethodName × Nat) := lw_privs_1
def lw_tbl : List Cond := k2_sels lw_privs ++ tables_1
theorem lw_privs_ok : ∀ q ∈ lw_privs, lw_okq q := lw_r1
end
section
def R_P : String := "ReachKeeper$PairSet"
def F_P : u_T := fun k => match k with
  | _ => ("ReachKeeper$PairSet", "rows", "[I", true)
def t_P : Nat → FieldType := fun k => match k with
  | _ => .array .int
theorem n_P : ∀ a, a < 1 → ∀ b, b < 1 → a ≠ b → (F_P a).2.1 ≠ (F_P b).2.1 := by decide +kernel
theorem t_P_ok : ∀ k, k < 1 → parseFieldDescriptor (F_P k).2.2.1 = some (t_P k) := by decide +kernel
def R_K : String := "ReachKeeper"
def F_K : u_T := fun k => match k with
  | 0 => ("ReachKeeper", "edgeCounts", "[I", true)
  | 1 => ("ReachKeeper", "gatheredEdges", "[I", true)
  | 2 => ("ReachKeeper", "gatheredSums", "[I", true)
  | 3 => ("ReachKeeper", "gatheredSize", "I", false)
  | 4 => ("ReachKeeper", "edges", "LReachKeeper$PairSet;", true)
  | 5 => ("ReachKeeper", "holding", "LReachKeeper$PairSet;", true)
  | 6 => ("ReachKeeper", "heldBefore", "LReachKeeper$PairSet;", true)
  | 7 => ("ReachKeeper", "newlyHolding", "LReachKeeper$PairSet;", true)
  | _ => ("ReachKeeper", "noLongerHolding", "LReachKeeper$PairSet;", true)
def t_K : Nat → FieldType := fun k => match k with
  | 0 => .array .int
  | 1 => .array .int
  | 2 => .array .int
  | 3 => .int
  | 4 => .object "ReachKeeper$PairSet"
  | 5 => .object "ReachKeeper$PairSet"
  | 6 => .object "ReachKeeper$PairSet"
  | 7 => .object "ReachKeeper$PairSet"
  | _ => .object "ReachKeeper$PairSet"
theorem n_K : ∀ a, a < 9 → ∀ b, b < 9 → a ≠ b → (F_K a).2.1 ≠ (F_K b).2.1 := by decide +kernel
theorem t_K_ok : ∀ k, k < 9 → parseFieldDescriptor (F_K k).2.2.1 = some (t_K k) := by decide +kernel
def R_M : String := "ReachKeeperModel"
def F_M : u_T := fun k => match k with
  | 0 => ("ReachKeeperModel", "thrown", "I", false)
  | 1 => ("ReachKeeperModel", "gathered", "I", false)
  | 2 => ("ReachKeeperModel", "times", "[I", true)
  | 3 => ("ReachKeeperModel", "then", "[I", true)
  | 4 => ("ReachKeeperModel", "place", "[I", true)
  | 5 => ("ReachKeeperModel", "by", "[I", true)
  | 6 => ("ReachKeeperModel", "far", "[I", true)
  | 7 => ("ReachKeeperModel", "holds", "[Z", true)
  | _ => ("ReachKeeperModel", "held", "[Z", true)
def t_M : Nat → FieldType := fun k => match k with
  | 0 => .int
  | 1 => .int
  | 2 => .array .int
  | 3 => .array .int
  | 4 => .array .int
  | 5 => .array .int
  | 6 => .array .int
  | 7 => .array .boolean
  | _ => .array .boolean
theorem n_M : ∀ a, a < 9 → ∀ b, b < 9 → a ≠ b → (F_M a).2.1 ≠ (F_M b).2.1 := by decide +kernel
theorem t_M_ok : ∀ k, k < 9 → parseFieldDescriptor (F_M k).2.2.1 = some (t_M k) := by decide +kernel
def R_L : String := "ReachKeeperLaw"
def R_JI : String := "java/lang/Integer"
abbrev classes : List vw_C := [(R_P, F_P, 1), (R_K, F_K, 9), (R_M, F_M, 9)]
abbrev b_P_init : ByteArray := prog_2_method_1_code
def y_P_init : MethodName := ⟨R_P, "<init>", "()V"⟩
abbrev b_P_has : ByteArray := prog_2_method_2_code
def y_P_has : MethodName := ⟨R_P, "has", "(II)Z"⟩
abbrev b_P_put : ByteArray := prog_2_method_3_code
def y_P_put : MethodName := ⟨R_P, "put", "(IIZ)V"⟩
abbrev b_P_copyFrom : ByteArray := prog_2_method_4_code
def y_P_copyFrom : MethodName := ⟨R_P, "copyFrom", "(LReachKeeper$PairSet;)V"⟩
abbrev b_P_becomeDifference : ByteArray := prog_2_method_5_code
def y_P_becomeDifference : MethodName := ⟨R_P, "becomeDifference", "(LReachKeeper$PairSet;LReachKeeper$PairSet;)V"⟩
abbrev b_P_size : ByteArray := prog_2_method_6_code
def y_P_size : MethodName := ⟨R_P, "size", "()I"⟩
abbrev b_P_pairAt : ByteArray := prog_2_method_7_code
def y_P_pairAt : MethodName := ⟨R_P, "pairAt", "(I)I"⟩
abbrev b_P_joinWays : ByteArray := prog_2_method_8_code
def y_P_joinWays : MethodName := ⟨R_P, "joinWays", "()V"⟩
abbrev b_P_shortestWay : ByteArray := prog_2_method_9_code
def y_P_shortestWay : MethodName := ⟨R_P, "shortestWay", "(II)I"⟩
abbrev b_P_loops : ByteArray := prog_2_method_10_code
def y_P_loops : MethodName := ⟨R_P, "loops", "()I"⟩
abbrev b_P_circles : ByteArray := prog_2_method_11_code
def y_P_circles : MethodName := ⟨R_P, "circles", "()I"⟩
abbrev b_P_hasLowerMate : ByteArray := prog_2_method_12_code
def y_P_hasLowerMate : MethodName := ⟨R_P, "hasLowerMate", "(I)Z"⟩
abbrev b_P_oneStepFrom : ByteArray := prog_2_method_13_code
def y_P_oneStepFrom : MethodName := ⟨R_P, "oneStepFrom", "(I)I"⟩
abbrev b_P_hasBit : ByteArray := prog_2_method_14_code
def y_P_hasBit : MethodName := ⟨R_P, "hasBit", "(II)Z"⟩
abbrev b_P_bitAt : ByteArray := prog_2_method_15_code
def y_P_bitAt : MethodName := ⟨R_P, "bitAt", "(II)I"⟩
abbrev b_K_init : ByteArray := prog_1_method_1_code
def y_K_init : MethodName := ⟨R_K, "<init>", "()V"⟩
abbrev b_K_change : ByteArray := prog_1_method_2_code
def y_K_change : MethodName := ⟨R_K, "change", "(IIZ)I"⟩
abbrev b_K_forget : ByteArray := prog_1_method_3_code
def y_K_forget : MethodName := ⟨R_K, "forget", "()I"⟩
abbrev b_K_apply : ByteArray := prog_1_method_4_code
def y_K_apply : MethodName := ⟨R_K, "apply", "()I"⟩
abbrev b_K_holds : ByteArray := prog_1_method_5_code
def y_K_holds : MethodName := ⟨R_K, "holds", "(II)Z"⟩
abbrev b_K_came : ByteArray := prog_1_method_6_code
def y_K_came : MethodName := ⟨R_K, "came", "(I)I"⟩
abbrev b_K_went : ByteArray := prog_1_method_7_code
def y_K_went : MethodName := ⟨R_K, "went", "(I)I"⟩
abbrev b_K_distance : ByteArray := prog_1_method_8_code
def y_K_distance : MethodName := ⟨R_K, "distance", "(II)I"⟩
abbrev b_K_times : ByteArray := prog_1_method_9_code
def y_K_times : MethodName := ⟨R_K, "times", "(II)I"⟩
abbrev b_K_count : ByteArray := prog_1_method_10_code
def y_K_count : MethodName := ⟨R_K, "count", "(I)I"⟩
abbrev b_K_isVertex : ByteArray := prog_1_method_11_code
def y_K_isVertex : MethodName := ⟨R_K, "isVertex", "(I)Z"⟩
abbrev b_K_requireVertices : ByteArray := prog_1_method_12_code
def y_K_requireVertices : MethodName := ⟨R_K, "requireVertices", "(II)V"⟩
abbrev b_K_requirePair : ByteArray := prog_1_method_13_code
def y_K_requirePair : MethodName := ⟨R_K, "requirePair", "(I)I"⟩
abbrev b_K_numberOf : ByteArray := prog_1_method_14_code
def y_K_numberOf : MethodName := ⟨R_K, "numberOf", "(II)I"⟩
abbrev b_K_gatheredConflicts : ByteArray := prog_1_method_15_code
def y_K_gatheredConflicts : MethodName := ⟨R_K, "gatheredConflicts", "()Z"⟩
abbrev b_K_addGatheredToCounts : ByteArray := prog_1_method_16_code
def y_K_addGatheredToCounts : MethodName := ⟨R_K, "addGatheredToCounts", "()V"⟩
abbrev b_K_clearGathered : ByteArray := prog_1_method_17_code
def y_K_clearGathered : MethodName := ⟨R_K, "clearGathered", "()V"⟩
abbrev b_K_followEdges : ByteArray := prog_1_method_18_code
def y_K_followEdges : MethodName := ⟨R_K, "followEdges", "()V"⟩
abbrev b_K_sumOfCounts : ByteArray := prog_1_method_19_code
def y_K_sumOfCounts : MethodName := ⟨R_K, "sumOfCounts", "()I"⟩
abbrev b_M_init : ByteArray := prog_4_method_1_code
def y_M_init : MethodName := ⟨R_M, "<init>", "()V"⟩
abbrev b_M_thrown : ByteArray := prog_4_method_2_code
def y_M_thrown : MethodName := ⟨R_M, "thrown", "()I"⟩
abbrev b_M_isVertex : ByteArray := prog_4_method_3_code
def y_M_isVertex : MethodName := ⟨R_M, "isVertex", "(I)Z"⟩
abbrev b_M_change : ByteArray := prog_4_method_4_code
def y_M_change : MethodName := ⟨R_M, "change", "(IIZ)I"⟩
abbrev b_M_forget : ByteArray := prog_4_method_5_code
def y_M_forget : MethodName := ⟨R_M, "forget", "()I"⟩
abbrev b_M_apply : ByteArray := prog_4_method_6_code
def y_M_apply : MethodName := ⟨R_M, "apply", "()I"⟩
abbrev b_M_many : ByteArray := prog_4_method_7_code
def y_M_many : MethodName := ⟨R_M, "many", "(Z)I"⟩
abbrev b_M_holds : ByteArray := prog_4_method_8_code
def y_M_holds : MethodName := ⟨R_M, "holds", "(II)Z"⟩
abbrev b_M_other : ByteArray := prog_4_method_9_code
def y_M_other : MethodName := ⟨R_M, "other", "(IZ)I"⟩
abbrev b_M_came : ByteArray := prog_4_method_10_code
def y_M_came : MethodName := ⟨R_M, "came", "(I)I"⟩
abbrev b_M_went : ByteArray := prog_4_method_11_code
def y_M_went : MethodName := ⟨R_M, "went", "(I)I"⟩
abbrev b_M_distance : ByteArray := prog_4_method_12_code
def y_M_distance : MethodName := ⟨R_M, "distance", "(II)I"⟩
abbrev b_M_times : ByteArray := prog_4_method_13_code
def y_M_times : MethodName := ⟨R_M, "times", "(II)I"⟩
abbrev b_M_count : ByteArray := prog_4_method_14_code
def y_M_count : MethodName := ⟨R_M, "count", "(I)I"⟩
abbrev b_L_change : ByteArray := method_3_code
def y_L_change : MethodName := ⟨R_L, "change", "(LReachKeeper;IIZ[J)I"⟩
abbrev b_L_apply : ByteArray := method_4_code
def y_L_apply : MethodName := ⟨R_L, "apply", "(LReachKeeper;[J)I"⟩
abbrev b_L_holds : ByteArray := method_5_code
def y_L_holds : MethodName := ⟨R_L, "holds", "(LReachKeeper;II[J)I"⟩
abbrev b_L_came : ByteArray := method_6_code
def y_L_came : MethodName := ⟨R_L, "came", "(LReachKeeper;I[J)I"⟩
abbrev b_L_went : ByteArray := method_7_code
def y_L_went : MethodName := ⟨R_L, "went", "(LReachKeeper;I[J)I"⟩
abbrev b_L_distance : ByteArray := method_8_code
def y_L_distance : MethodName := ⟨R_L, "distance", "(LReachKeeper;II[J)I"⟩
abbrev b_L_times : ByteArray := method_9_code
def y_L_times : MethodName := ⟨R_L, "times", "(LReachKeeper;II[J)I"⟩
abbrev b_L_law : ByteArray := code
def y_L_law : MethodName := ⟨R_L, "law", "([I)Z"⟩
abbrev b_JI_bitCount : ByteArray := prog_9_method_49_code
def y_JI_bitCount : MethodName := ⟨R_JI, "bitCount", "(I)I"⟩
end
section
def WT : List Cond := lw_tbl.filter goodWord
theorem rk_mem {w : Cond} {i : Nat} (h : lw_tbl[i]? = some w) (g : goodWord w = true) : w ∈ WT := List.mem_filter.mpr ⟨List.mem_of_getElem? h, g⟩
theorem rk_good : GoodIn WT WT := fun w h => ⟨h, good_of_word (List.mem_filter.mp h).2⟩
theorem u_P : ∀ w ∈ u_ws R_P F_P 1, w ∈ WT := fun w h => List.mem_filter.mpr ⟨(by decide +kernel : ∀ w ∈ u_ws R_P F_P 1, w ∈ lw_tbl) w h, (by decide +kernel : ∀ w ∈ u_ws R_P F_P 1, goodWord w = true) w h⟩
theorem u_K : ∀ w ∈ u_ws R_K F_K 9, w ∈ WT := fun w h => List.mem_filter.mpr ⟨(by decide +kernel : ∀ w ∈ u_ws R_K F_K 9, w ∈ lw_tbl) w h, (by decide +kernel : ∀ w ∈ u_ws R_K F_K 9, goodWord w = true) w h⟩
theorem u_M : ∀ w ∈ u_ws R_M F_M 9, w ∈ WT := fun w h => List.mem_filter.mpr ⟨(by decide +kernel : ∀ w ∈ u_ws R_M F_M 9, w ∈ lw_tbl) w h, (by decide +kernel : ∀ w ∈ u_ws R_M F_M 9, goodWord w = true) w h⟩
theorem in_L : (.initialized R_L : Cond) ∈ WT := rk_mem (i := 10) rfl rfl
theorem in_K : (.initialized R_K : Cond) ∈ WT := rk_mem (i := 11) rfl rfl
theorem in_P : (.initialized R_P : Cond) ∈ WT := rk_mem (i := 12) rfl rfl
theorem in_M : (.initialized R_M : Cond) ∈ WT := rk_mem (i := 13) rfl rfl
theorem in_Throwable : (.initialized "java/lang/Throwable" : Cond) ∈ WT := rk_mem (i := 14) rfl rfl
theorem in_Exception : (.initialized "java/lang/Exception" : Cond) ∈ WT := rk_mem (i := 15) rfl rfl
theorem in_RuntimeException : (.initialized "java/lang/RuntimeException" : Cond) ∈ WT := rk_mem (i := 16) rfl rfl
theorem in_IllegalArgumentException : (.initialized "java/lang/IllegalArgumentException" : Cond) ∈ WT := rk_mem (i := 17) rfl rfl
theorem in_IndexOutOfBoundsException : (.initialized "java/lang/IndexOutOfBoundsException" : Cond) ∈ WT := rk_mem (i := 18) rfl rfl
theorem in_IllegalStateException : (.initialized "java/lang/IllegalStateException" : Cond) ∈ WT := rk_mem (i := 19) rfl rfl
theorem in_JI : (.initialized R_JI : Cond) ∈ WT := rk_mem (i := 20) rfl rfl
theorem in_NoSuchElementException : (.initialized "java/util/NoSuchElementException" : Cond) ∈ WT := rk_mem (i := 21) rfl rfl
theorem cl_L_8 : (.classLink R_L 8 R_K : Cond) ∈ WT := rk_mem (i := 22) rfl rfl
theorem it_K : (.instantiable R_K 9 : Cond) ∈ WT := rk_mem (i := 23) rfl rfl
theorem ml_L_43 : (.methodLink R_L 43 y_K_init : Cond) ∈ WT := rk_mem (i := 24) rfl rfl
theorem im_K_init : (.instanceMethod y_K_init : Cond) ∈ WT := rk_mem (i := 25) rfl rfl
theorem ml_K_1 : (.methodLink R_K 1 objectInit : Cond) ∈ WT := rk_mem (i := 27) rfl rfl
theorem im_objectInit : (.instanceMethod objectInit : Cond) ∈ WT := rk_mem (i := 28) rfl rfl
theorem cl_K_23 : (.classLink R_K 23 R_P : Cond) ∈ WT := rk_mem (i := 30) rfl rfl
theorem it_P : (.instantiable R_P 1 : Cond) ∈ WT := rk_mem (i := 31) rfl rfl
theorem ml_K_25 : (.methodLink R_K 25 y_P_init : Cond) ∈ WT := rk_mem (i := 32) rfl rfl
theorem im_P_init : (.instanceMethod y_P_init : Cond) ∈ WT := rk_mem (i := 33) rfl rfl
theorem ml_P_3 : (.methodLink R_P 3 objectInit : Cond) ∈ WT := rk_mem (i := 35) rfl rfl
theorem l_P_9 : (.fieldLink R_P 9 "ReachKeeper$PairSet" "rows" "[I" : Cond) ∈ WT := rk_mem (i := 36) rfl rfl
theorem ac_int : (.arrayClass .int : Cond) ∈ WT := rk_mem (i := 40) rfl rfl
theorem l_K_9 : (.fieldLink R_K 9 "ReachKeeper" "edgeCounts" "[I" : Cond) ∈ WT := rk_mem (i := 41) rfl rfl
theorem l_K_13 : (.fieldLink R_K 13 "ReachKeeper" "gatheredEdges" "[I" : Cond) ∈ WT := rk_mem (i := 42) rfl rfl
theorem l_K_16 : (.fieldLink R_K 16 "ReachKeeper" "gatheredSums" "[I" : Cond) ∈ WT := rk_mem (i := 43) rfl rfl
theorem l_K_19 : (.fieldLink R_K 19 "ReachKeeper" "gatheredSize" "I" : Cond) ∈ WT := rk_mem (i := 44) rfl rfl
theorem l_K_26 : (.fieldLink R_K 26 "ReachKeeper" "edges" "LReachKeeper$PairSet;" : Cond) ∈ WT := rk_mem (i := 45) rfl rfl
theorem l_K_30 : (.fieldLink R_K 30 "ReachKeeper" "holding" "LReachKeeper$PairSet;" : Cond) ∈ WT := rk_mem (i := 46) rfl rfl
theorem l_K_33 : (.fieldLink R_K 33 "ReachKeeper" "heldBefore" "LReachKeeper$PairSet;" : Cond) ∈ WT := rk_mem (i := 47) rfl rfl
theorem l_K_36 : (.fieldLink R_K 36 "ReachKeeper" "newlyHolding" "LReachKeeper$PairSet;" : Cond) ∈ WT := rk_mem (i := 48) rfl rfl
theorem l_K_39 : (.fieldLink R_K 39 "ReachKeeper" "noLongerHolding" "LReachKeeper$PairSet;" : Cond) ∈ WT := rk_mem (i := 49) rfl rfl
theorem ml_L_56 : (.methodLink R_L 56 y_K_forget : Cond) ∈ WT := rk_mem (i := 69) rfl rfl
theorem im_K_forget : (.instanceMethod y_K_forget : Cond) ∈ WT := rk_mem (i := 70) rfl rfl
theorem se_K_forget : (.selects R_K y_K_forget y_K_forget : Cond) ∈ WT := rk_mem (i := 71) rfl rfl
theorem ml_K_57 : (.methodLink R_K 57 y_K_clearGathered : Cond) ∈ WT := rk_mem (i := 73) rfl rfl
theorem im_K_clearGathered : (.instanceMethod y_K_clearGathered : Cond) ∈ WT := rk_mem (i := 75) rfl rfl
theorem ml_L_81 : (.methodLink R_L 81 y_K_count : Cond) ∈ WT := rk_mem (i := 77) rfl rfl
theorem im_K_count : (.instanceMethod y_K_count : Cond) ∈ WT := rk_mem (i := 78) rfl rfl
theorem se_K_count : (.selects R_K y_K_count y_K_count : Cond) ∈ WT := rk_mem (i := 79) rfl rfl
theorem ml_K_75 : (.methodLink R_K 75 y_P_size : Cond) ∈ WT := rk_mem (i := 81) rfl rfl
theorem im_P_size : (.instanceMethod y_P_size : Cond) ∈ WT := rk_mem (i := 82) rfl rfl
theorem se_P_size : (.selects R_P y_P_size y_P_size : Cond) ∈ WT := rk_mem (i := 83) rfl rfl
theorem ml_P_19 : (.methodLink R_P 19 y_JI_bitCount : Cond) ∈ WT := rk_mem (i := 85) rfl rfl
theorem st_JI_bitCount : (.static y_JI_bitCount : Cond) ∈ WT := rk_mem (i := 86) rfl rfl
theorem k_JI_265 : (.constant R_JI 265 1431655765 : Cond) ∈ WT := rk_mem (i := 88) rfl rfl
theorem k_JI_266 : (.constant R_JI 266 858993459 : Cond) ∈ WT := rk_mem (i := 89) rfl rfl
theorem k_JI_267 : (.constant R_JI 267 252645135 : Cond) ∈ WT := rk_mem (i := 90) rfl rfl
theorem ml_K_98 : (.methodLink R_K 98 y_K_sumOfCounts : Cond) ∈ WT := rk_mem (i := 91) rfl rfl
theorem im_K_sumOfCounts : (.instanceMethod y_K_sumOfCounts : Cond) ∈ WT := rk_mem (i := 93) rfl rfl
theorem ml_K_101 : (.methodLink R_K 101 y_P_loops : Cond) ∈ WT := rk_mem (i := 95) rfl rfl
theorem im_P_loops : (.instanceMethod y_P_loops : Cond) ∈ WT := rk_mem (i := 96) rfl rfl
theorem se_P_loops : (.selects R_P y_P_loops y_P_loops : Cond) ∈ WT := rk_mem (i := 97) rfl rfl
theorem ml_P_32 : (.methodLink R_P 32 y_P_has : Cond) ∈ WT := rk_mem (i := 99) rfl rfl
theorem im_P_has : (.instanceMethod y_P_has : Cond) ∈ WT := rk_mem (i := 100) rfl rfl
theorem se_P_has : (.selects R_P y_P_has y_P_has : Cond) ∈ WT := rk_mem (i := 101) rfl rfl
theorem ml_P_15 : (.methodLink R_P 15 y_P_hasBit : Cond) ∈ WT := rk_mem (i := 103) rfl rfl
theorem st_P_hasBit : (.static y_P_hasBit : Cond) ∈ WT := rk_mem (i := 104) rfl rfl
theorem ml_K_104 : (.methodLink R_K 104 y_P_circles : Cond) ∈ WT := rk_mem (i := 106) rfl rfl
theorem im_P_circles : (.instanceMethod y_P_circles : Cond) ∈ WT := rk_mem (i := 107) rfl rfl
theorem se_P_circles : (.selects R_P y_P_circles y_P_circles : Cond) ∈ WT := rk_mem (i := 108) rfl rfl
theorem ml_P_38 : (.methodLink R_P 38 y_P_hasLowerMate : Cond) ∈ WT := rk_mem (i := 110) rfl rfl
theorem im_P_hasLowerMate : (.instanceMethod y_P_hasLowerMate : Cond) ∈ WT := rk_mem (i := 112) rfl rfl
theorem ml_L_47 : (.methodLink R_L 47 y_L_change : Cond) ∈ WT := rk_mem (i := 114) rfl rfl
theorem st_L_change : (.static y_L_change : Cond) ∈ WT := rk_mem (i := 115) rfl rfl
theorem cl_L_13 : (.classLink R_L 13 "java/lang/IllegalArgumentException" : Cond) ∈ WT := rk_mem (i := 117) rfl rfl
theorem cl_L_15 : (.classLink R_L 15 "java/lang/IndexOutOfBoundsException" : Cond) ∈ WT := rk_mem (i := 118) rfl rfl
theorem ml_L_7 : (.methodLink R_L 7 y_K_change : Cond) ∈ WT := rk_mem (i := 119) rfl rfl
theorem im_K_change : (.instanceMethod y_K_change : Cond) ∈ WT := rk_mem (i := 120) rfl rfl
theorem se_K_change : (.selects R_K y_K_change y_K_change : Cond) ∈ WT := rk_mem (i := 121) rfl rfl
theorem ml_K_42 : (.methodLink R_K 42 y_K_requireVertices : Cond) ∈ WT := rk_mem (i := 123) rfl rfl
theorem st_K_requireVertices : (.static y_K_requireVertices : Cond) ∈ WT := rk_mem (i := 124) rfl rfl
theorem ml_K_107 : (.methodLink R_K 107 y_K_isVertex : Cond) ∈ WT := rk_mem (i := 126) rfl rfl
theorem st_K_isVertex : (.static y_K_isVertex : Cond) ∈ WT := rk_mem (i := 127) rfl rfl
theorem cl_K_111 : (.classLink R_K 111 "java/lang/IllegalArgumentException" : Cond) ∈ WT := rk_mem (i := 129) rfl rfl
theorem ac_byte : (.arrayClass .byte : Cond) ∈ WT := rk_mem (i := 197) rfl rfl
theorem cl_K_46 : (.classLink R_K 46 "java/lang/IndexOutOfBoundsException" : Cond) ∈ WT := rk_mem (i := 198) rfl rfl
theorem ml_K_53 : (.methodLink R_K 53 y_K_numberOf : Cond) ∈ WT := rk_mem (i := 214) rfl rfl
theorem st_K_numberOf : (.static y_K_numberOf : Cond) ∈ WT := rk_mem (i := 215) rfl rfl
theorem ml_L_60 : (.methodLink R_L 60 y_L_apply : Cond) ∈ WT := rk_mem (i := 217) rfl rfl
theorem st_L_apply : (.static y_L_apply : Cond) ∈ WT := rk_mem (i := 218) rfl rfl
theorem cl_L_21 : (.classLink R_L 21 "java/lang/IllegalStateException" : Cond) ∈ WT := rk_mem (i := 220) rfl rfl
theorem ml_L_17 : (.methodLink R_L 17 y_K_apply : Cond) ∈ WT := rk_mem (i := 221) rfl rfl
theorem im_K_apply : (.instanceMethod y_K_apply : Cond) ∈ WT := rk_mem (i := 222) rfl rfl
theorem se_K_apply : (.selects R_K y_K_apply y_K_apply : Cond) ∈ WT := rk_mem (i := 223) rfl rfl
theorem ml_K_60 : (.methodLink R_K 60 y_K_gatheredConflicts : Cond) ∈ WT := rk_mem (i := 225) rfl rfl
theorem im_K_gatheredConflicts : (.instanceMethod y_K_gatheredConflicts : Cond) ∈ WT := rk_mem (i := 227) rfl rfl
theorem cl_K_64 : (.classLink R_K 64 "java/lang/IllegalStateException" : Cond) ∈ WT := rk_mem (i := 229) rfl rfl
theorem ml_K_69 : (.methodLink R_K 69 y_K_addGatheredToCounts : Cond) ∈ WT := rk_mem (i := 245) rfl rfl
theorem im_K_addGatheredToCounts : (.instanceMethod y_K_addGatheredToCounts : Cond) ∈ WT := rk_mem (i := 247) rfl rfl
theorem ml_K_118 : (.methodLink R_K 118 y_P_put : Cond) ∈ WT := rk_mem (i := 249) rfl rfl
theorem im_P_put : (.instanceMethod y_P_put : Cond) ∈ WT := rk_mem (i := 250) rfl rfl
theorem se_P_put : (.selects R_P y_P_put y_P_put : Cond) ∈ WT := rk_mem (i := 251) rfl rfl
theorem ml_K_72 : (.methodLink R_K 72 y_K_followEdges : Cond) ∈ WT := rk_mem (i := 253) rfl rfl
theorem im_K_followEdges : (.instanceMethod y_K_followEdges : Cond) ∈ WT := rk_mem (i := 255) rfl rfl
theorem ml_K_122 : (.methodLink R_K 122 y_P_copyFrom : Cond) ∈ WT := rk_mem (i := 257) rfl rfl
theorem im_P_copyFrom : (.instanceMethod y_P_copyFrom : Cond) ∈ WT := rk_mem (i := 258) rfl rfl
theorem se_P_copyFrom : (.selects R_P y_P_copyFrom y_P_copyFrom : Cond) ∈ WT := rk_mem (i := 259) rfl rfl
theorem ml_K_126 : (.methodLink R_K 126 y_P_joinWays : Cond) ∈ WT := rk_mem (i := 261) rfl rfl
theorem im_P_joinWays : (.instanceMethod y_P_joinWays : Cond) ∈ WT := rk_mem (i := 262) rfl rfl
theorem se_P_joinWays : (.selects R_P y_P_joinWays y_P_joinWays : Cond) ∈ WT := rk_mem (i := 263) rfl rfl
theorem ml_K_129 : (.methodLink R_K 129 y_P_becomeDifference : Cond) ∈ WT := rk_mem (i := 265) rfl rfl
theorem im_P_becomeDifference : (.instanceMethod y_P_becomeDifference : Cond) ∈ WT := rk_mem (i := 266) rfl rfl
theorem se_P_becomeDifference : (.selects R_P y_P_becomeDifference y_P_becomeDifference : Cond) ∈ WT := rk_mem (i := 267) rfl rfl
theorem ml_L_64 : (.methodLink R_L 64 y_L_holds : Cond) ∈ WT := rk_mem (i := 269) rfl rfl
theorem st_L_holds : (.static y_L_holds : Cond) ∈ WT := rk_mem (i := 270) rfl rfl
theorem ml_L_23 : (.methodLink R_L 23 y_K_holds : Cond) ∈ WT := rk_mem (i := 272) rfl rfl
theorem im_K_holds : (.instanceMethod y_K_holds : Cond) ∈ WT := rk_mem (i := 273) rfl rfl
theorem se_K_holds : (.selects R_K y_K_holds y_K_holds : Cond) ∈ WT := rk_mem (i := 274) rfl rfl
theorem ml_K_79 : (.methodLink R_K 79 y_P_has : Cond) ∈ WT := rk_mem (i := 276) rfl rfl
theorem ml_L_68 : (.methodLink R_L 68 y_L_came : Cond) ∈ WT := rk_mem (i := 277) rfl rfl
theorem st_L_came : (.static y_L_came : Cond) ∈ WT := rk_mem (i := 278) rfl rfl
theorem cl_L_31 : (.classLink R_L 31 "java/util/NoSuchElementException" : Cond) ∈ WT := rk_mem (i := 280) rfl rfl
theorem ml_L_27 : (.methodLink R_L 27 y_K_came : Cond) ∈ WT := rk_mem (i := 281) rfl rfl
theorem im_K_came : (.instanceMethod y_K_came : Cond) ∈ WT := rk_mem (i := 282) rfl rfl
theorem se_K_came : (.selects R_K y_K_came y_K_came : Cond) ∈ WT := rk_mem (i := 283) rfl rfl
theorem ml_K_83 : (.methodLink R_K 83 y_P_pairAt : Cond) ∈ WT := rk_mem (i := 285) rfl rfl
theorem im_P_pairAt : (.instanceMethod y_P_pairAt : Cond) ∈ WT := rk_mem (i := 286) rfl rfl
theorem se_P_pairAt : (.selects R_P y_P_pairAt y_P_pairAt : Cond) ∈ WT := rk_mem (i := 287) rfl rfl
theorem ml_P_25 : (.methodLink R_P 25 y_P_bitAt : Cond) ∈ WT := rk_mem (i := 289) rfl rfl
theorem st_P_bitAt : (.static y_P_bitAt : Cond) ∈ WT := rk_mem (i := 290) rfl rfl
theorem ml_K_87 : (.methodLink R_K 87 y_K_requirePair : Cond) ∈ WT := rk_mem (i := 293) rfl rfl
theorem st_K_requirePair : (.static y_K_requirePair : Cond) ∈ WT := rk_mem (i := 294) rfl rfl
theorem cl_K_93 : (.classLink R_K 93 "java/util/NoSuchElementException" : Cond) ∈ WT := rk_mem (i := 296) rfl rfl
theorem ml_L_72 : (.methodLink R_L 72 y_L_went : Cond) ∈ WT := rk_mem (i := 312) rfl rfl
theorem st_L_went : (.static y_L_went : Cond) ∈ WT := rk_mem (i := 313) rfl rfl
theorem ml_L_33 : (.methodLink R_L 33 y_K_went : Cond) ∈ WT := rk_mem (i := 315) rfl rfl
theorem im_K_went : (.instanceMethod y_K_went : Cond) ∈ WT := rk_mem (i := 316) rfl rfl
theorem se_K_went : (.selects R_K y_K_went y_K_went : Cond) ∈ WT := rk_mem (i := 317) rfl rfl
theorem ml_L_75 : (.methodLink R_L 75 y_L_distance : Cond) ∈ WT := rk_mem (i := 319) rfl rfl
theorem st_L_distance : (.static y_L_distance : Cond) ∈ WT := rk_mem (i := 320) rfl rfl
theorem ml_L_36 : (.methodLink R_L 36 y_K_distance : Cond) ∈ WT := rk_mem (i := 322) rfl rfl
theorem im_K_distance : (.instanceMethod y_K_distance : Cond) ∈ WT := rk_mem (i := 323) rfl rfl
theorem se_K_distance : (.selects R_K y_K_distance y_K_distance : Cond) ∈ WT := rk_mem (i := 324) rfl rfl
theorem ml_K_90 : (.methodLink R_K 90 y_P_shortestWay : Cond) ∈ WT := rk_mem (i := 326) rfl rfl
theorem im_P_shortestWay : (.instanceMethod y_P_shortestWay : Cond) ∈ WT := rk_mem (i := 327) rfl rfl
theorem se_P_shortestWay : (.selects R_P y_P_shortestWay y_P_shortestWay : Cond) ∈ WT := rk_mem (i := 328) rfl rfl
theorem ml_P_35 : (.methodLink R_P 35 y_P_oneStepFrom : Cond) ∈ WT := rk_mem (i := 330) rfl rfl
theorem im_P_oneStepFrom : (.instanceMethod y_P_oneStepFrom : Cond) ∈ WT := rk_mem (i := 332) rfl rfl
theorem ml_L_78 : (.methodLink R_L 78 y_L_times : Cond) ∈ WT := rk_mem (i := 335) rfl rfl
theorem st_L_times : (.static y_L_times : Cond) ∈ WT := rk_mem (i := 336) rfl rfl
theorem ml_L_40 : (.methodLink R_L 40 y_K_times : Cond) ∈ WT := rk_mem (i := 338) rfl rfl
theorem im_K_times : (.instanceMethod y_K_times : Cond) ∈ WT := rk_mem (i := 339) rfl rfl
theorem se_K_times : (.selects R_K y_K_times y_K_times : Cond) ∈ WT := rk_mem (i := 340) rfl rfl
theorem cl_L_44 : (.classLink R_L 44 R_M : Cond) ∈ WT := rk_mem (i := 342) rfl rfl
theorem it_M : (.instantiable R_M 9 : Cond) ∈ WT := rk_mem (i := 343) rfl rfl
theorem ml_L_46 : (.methodLink R_L 46 y_M_init : Cond) ∈ WT := rk_mem (i := 344) rfl rfl
theorem im_M_init : (.instanceMethod y_M_init : Cond) ∈ WT := rk_mem (i := 345) rfl rfl
theorem ml_M_1 : (.methodLink R_M 1 objectInit : Cond) ∈ WT := rk_mem (i := 347) rfl rfl
theorem l_M_32 : (.fieldLink R_M 32 "ReachKeeperModel" "thrown" "I" : Cond) ∈ WT := rk_mem (i := 348) rfl rfl
theorem l_M_40 : (.fieldLink R_M 40 "ReachKeeperModel" "gathered" "I" : Cond) ∈ WT := rk_mem (i := 349) rfl rfl
theorem l_M_9 : (.fieldLink R_M 9 "ReachKeeperModel" "times" "[I" : Cond) ∈ WT := rk_mem (i := 350) rfl rfl
theorem l_M_13 : (.fieldLink R_M 13 "ReachKeeperModel" "then" "[I" : Cond) ∈ WT := rk_mem (i := 351) rfl rfl
theorem l_M_16 : (.fieldLink R_M 16 "ReachKeeperModel" "place" "[I" : Cond) ∈ WT := rk_mem (i := 352) rfl rfl
theorem l_M_19 : (.fieldLink R_M 19 "ReachKeeperModel" "by" "[I" : Cond) ∈ WT := rk_mem (i := 353) rfl rfl
theorem l_M_22 : (.fieldLink R_M 22 "ReachKeeperModel" "far" "[I" : Cond) ∈ WT := rk_mem (i := 354) rfl rfl
theorem l_M_25 : (.fieldLink R_M 25 "ReachKeeperModel" "holds" "[Z" : Cond) ∈ WT := rk_mem (i := 355) rfl rfl
theorem l_M_29 : (.fieldLink R_M 29 "ReachKeeperModel" "held" "[Z" : Cond) ∈ WT := rk_mem (i := 356) rfl rfl
theorem ac_boolean : (.arrayClass .boolean : Cond) ∈ WT := rk_mem (i := 376) rfl rfl
theorem ml_L_53 : (.methodLink R_L 53 y_M_thrown : Cond) ∈ WT := rk_mem (i := 377) rfl rfl
theorem im_M_thrown : (.instanceMethod y_M_thrown : Cond) ∈ WT := rk_mem (i := 378) rfl rfl
theorem se_M_thrown : (.selects R_M y_M_thrown y_M_thrown : Cond) ∈ WT := rk_mem (i := 379) rfl rfl
theorem ml_L_52 : (.methodLink R_L 52 y_M_change : Cond) ∈ WT := rk_mem (i := 381) rfl rfl
theorem im_M_change : (.instanceMethod y_M_change : Cond) ∈ WT := rk_mem (i := 382) rfl rfl
theorem se_M_change : (.selects R_M y_M_change y_M_change : Cond) ∈ WT := rk_mem (i := 383) rfl rfl
theorem ml_M_36 : (.methodLink R_M 36 y_M_isVertex : Cond) ∈ WT := rk_mem (i := 385) rfl rfl
theorem st_M_isVertex : (.static y_M_isVertex : Cond) ∈ WT := rk_mem (i := 386) rfl rfl
theorem ml_L_59 : (.methodLink R_L 59 y_M_forget : Cond) ∈ WT := rk_mem (i := 388) rfl rfl
theorem im_M_forget : (.instanceMethod y_M_forget : Cond) ∈ WT := rk_mem (i := 389) rfl rfl
theorem se_M_forget : (.selects R_M y_M_forget y_M_forget : Cond) ∈ WT := rk_mem (i := 390) rfl rfl
theorem ml_L_63 : (.methodLink R_L 63 y_M_apply : Cond) ∈ WT := rk_mem (i := 392) rfl rfl
theorem im_M_apply : (.instanceMethod y_M_apply : Cond) ∈ WT := rk_mem (i := 393) rfl rfl
theorem se_M_apply : (.selects R_M y_M_apply y_M_apply : Cond) ∈ WT := rk_mem (i := 394) rfl rfl
theorem ml_M_43 : (.methodLink R_M 43 y_M_many : Cond) ∈ WT := rk_mem (i := 396) rfl rfl
theorem im_M_many : (.instanceMethod y_M_many : Cond) ∈ WT := rk_mem (i := 398) rfl rfl
theorem ml_L_67 : (.methodLink R_L 67 y_M_holds : Cond) ∈ WT := rk_mem (i := 400) rfl rfl
theorem im_M_holds : (.instanceMethod y_M_holds : Cond) ∈ WT := rk_mem (i := 401) rfl rfl
theorem se_M_holds : (.selects R_M y_M_holds y_M_holds : Cond) ∈ WT := rk_mem (i := 402) rfl rfl
theorem ml_L_71 : (.methodLink R_L 71 y_M_came : Cond) ∈ WT := rk_mem (i := 404) rfl rfl
theorem im_M_came : (.instanceMethod y_M_came : Cond) ∈ WT := rk_mem (i := 405) rfl rfl
theorem se_M_came : (.selects R_M y_M_came y_M_came : Cond) ∈ WT := rk_mem (i := 406) rfl rfl
theorem ml_M_47 : (.methodLink R_M 47 y_M_other : Cond) ∈ WT := rk_mem (i := 408) rfl rfl
theorem im_M_other : (.instanceMethod y_M_other : Cond) ∈ WT := rk_mem (i := 410) rfl rfl
theorem ml_L_74 : (.methodLink R_L 74 y_M_went : Cond) ∈ WT := rk_mem (i := 412) rfl rfl
theorem im_M_went : (.instanceMethod y_M_went : Cond) ∈ WT := rk_mem (i := 413) rfl rfl
theorem se_M_went : (.selects R_M y_M_went y_M_went : Cond) ∈ WT := rk_mem (i := 414) rfl rfl
theorem ml_L_77 : (.methodLink R_L 77 y_M_distance : Cond) ∈ WT := rk_mem (i := 416) rfl rfl
theorem im_M_distance : (.instanceMethod y_M_distance : Cond) ∈ WT := rk_mem (i := 417) rfl rfl
theorem se_M_distance : (.selects R_M y_M_distance y_M_distance : Cond) ∈ WT := rk_mem (i := 418) rfl rfl
theorem ml_L_80 : (.methodLink R_L 80 y_M_times : Cond) ∈ WT := rk_mem (i := 420) rfl rfl
theorem im_M_times : (.instanceMethod y_M_times : Cond) ∈ WT := rk_mem (i := 421) rfl rfl
theorem se_M_times : (.selects R_M y_M_times y_M_times : Cond) ∈ WT := rk_mem (i := 422) rfl rfl
theorem ml_L_84 : (.methodLink R_L 84 y_M_count : Cond) ∈ WT := rk_mem (i := 424) rfl rfl
theorem im_M_count : (.instanceMethod y_M_count : Cond) ∈ WT := rk_mem (i := 425) rfl rfl
theorem se_M_count : (.selects R_M y_M_count y_M_count : Cond) ∈ WT := rk_mem (i := 426) rfl rfl
theorem ac_long : (.arrayClass .long : Cond) ∈ WT := rk_mem (i := 428) rfl rfl
theorem co_objectInit : (.code objectInit ⟨#[0xb1]⟩ 1 none : Cond) ∈ WT := rk_mem (i := 29) rfl rfl
theorem se_K_clearGathered : (.selects R_K y_K_clearGathered y_K_clearGathered : Cond) ∈ WT := rk_mem (i := 0) rfl rfl
theorem se_K_sumOfCounts : (.selects R_K y_K_sumOfCounts y_K_sumOfCounts : Cond) ∈ WT := rk_mem (i := 1) rfl rfl
theorem se_P_hasLowerMate : (.selects R_P y_P_hasLowerMate y_P_hasLowerMate : Cond) ∈ WT := rk_mem (i := 2) rfl rfl
theorem se_K_gatheredConflicts : (.selects R_K y_K_gatheredConflicts y_K_gatheredConflicts : Cond) ∈ WT := rk_mem (i := 4) rfl rfl
theorem se_K_addGatheredToCounts : (.selects R_K y_K_addGatheredToCounts y_K_addGatheredToCounts : Cond) ∈ WT := rk_mem (i := 5) rfl rfl
theorem se_K_followEdges : (.selects R_K y_K_followEdges y_K_followEdges : Cond) ∈ WT := rk_mem (i := 6) rfl rfl
theorem se_P_oneStepFrom : (.selects R_P y_P_oneStepFrom y_P_oneStepFrom : Cond) ∈ WT := rk_mem (i := 7) rfl rfl
theorem se_M_many : (.selects R_M y_M_many y_M_many : Cond) ∈ WT := rk_mem (i := 8) rfl rfl
theorem se_M_other : (.selects R_M y_M_other y_M_other : Cond) ∈ WT := rk_mem (i := 9) rfl rfl
theorem co_P_init : (.code y_P_init b_P_init 1 none : Cond) ∈ WT := rk_mem (i := 34) rfl rfl
theorem co_P_has : (.code y_P_has b_P_has 3 (some .boolean) : Cond) ∈ WT := rk_mem (i := 102) rfl rfl
theorem co_P_put : (.code y_P_put b_P_put 4 none : Cond) ∈ WT := rk_mem (i := 252) rfl rfl
theorem co_P_copyFrom : (.code y_P_copyFrom b_P_copyFrom 3 none : Cond) ∈ WT := rk_mem (i := 260) rfl rfl
theorem co_P_becomeDifference : (.code y_P_becomeDifference b_P_becomeDifference 4 none : Cond) ∈ WT := rk_mem (i := 268) rfl rfl
theorem co_P_size : (.code y_P_size b_P_size 3 (some .int) : Cond) ∈ WT := rk_mem (i := 84) rfl rfl
theorem co_P_pairAt : (.code y_P_pairAt b_P_pairAt 5 (some .int) : Cond) ∈ WT := rk_mem (i := 288) rfl rfl
theorem co_P_joinWays : (.code y_P_joinWays b_P_joinWays 3 none : Cond) ∈ WT := rk_mem (i := 264) rfl rfl
theorem co_P_shortestWay : (.code y_P_shortestWay b_P_shortestWay 5 (some .int) : Cond) ∈ WT := rk_mem (i := 329) rfl rfl
theorem co_P_loops : (.code y_P_loops b_P_loops 3 (some .int) : Cond) ∈ WT := rk_mem (i := 98) rfl rfl
theorem co_P_circles : (.code y_P_circles b_P_circles 3 (some .int) : Cond) ∈ WT := rk_mem (i := 109) rfl rfl
theorem co_P_hasLowerMate : (.code y_P_hasLowerMate b_P_hasLowerMate 3 (some .boolean) : Cond) ∈ WT := rk_mem (i := 113) rfl rfl
theorem co_P_oneStepFrom : (.code y_P_oneStepFrom b_P_oneStepFrom 4 (some .int) : Cond) ∈ WT := rk_mem (i := 333) rfl rfl
theorem co_P_hasBit : (.code y_P_hasBit b_P_hasBit 2 (some .boolean) : Cond) ∈ WT := rk_mem (i := 105) rfl rfl
theorem co_P_bitAt : (.code y_P_bitAt b_P_bitAt 4 (some .int) : Cond) ∈ WT := rk_mem (i := 291) rfl rfl
theorem co_K_init : (.code y_K_init b_K_init 1 none : Cond) ∈ WT := rk_mem (i := 26) rfl rfl
theorem co_K_change : (.code y_K_change b_K_change 5 (some .int) : Cond) ∈ WT := rk_mem (i := 122) rfl rfl
theorem co_K_forget : (.code y_K_forget b_K_forget 2 (some .int) : Cond) ∈ WT := rk_mem (i := 72) rfl rfl
theorem co_K_apply : (.code y_K_apply b_K_apply 1 (some .int) : Cond) ∈ WT := rk_mem (i := 224) rfl rfl
theorem co_K_holds : (.code y_K_holds b_K_holds 3 (some .boolean) : Cond) ∈ WT := rk_mem (i := 275) rfl rfl
theorem co_K_came : (.code y_K_came b_K_came 2 (some .int) : Cond) ∈ WT := rk_mem (i := 284) rfl rfl
theorem co_K_went : (.code y_K_went b_K_went 2 (some .int) : Cond) ∈ WT := rk_mem (i := 318) rfl rfl
theorem co_K_distance : (.code y_K_distance b_K_distance 4 (some .int) : Cond) ∈ WT := rk_mem (i := 325) rfl rfl
theorem co_K_times : (.code y_K_times b_K_times 3 (some .int) : Cond) ∈ WT := rk_mem (i := 341) rfl rfl
theorem co_K_count : (.code y_K_count b_K_count 2 (some .int) : Cond) ∈ WT := rk_mem (i := 80) rfl rfl
theorem co_K_isVertex : (.code y_K_isVertex b_K_isVertex 1 (some .boolean) : Cond) ∈ WT := rk_mem (i := 128) rfl rfl
theorem co_K_requireVertices : (.code y_K_requireVertices b_K_requireVertices 2 none : Cond) ∈ WT := rk_mem (i := 125) rfl rfl
theorem co_K_requirePair : (.code y_K_requirePair b_K_requirePair 1 (some .int) : Cond) ∈ WT := rk_mem (i := 295) rfl rfl
theorem co_K_numberOf : (.code y_K_numberOf b_K_numberOf 2 (some .int) : Cond) ∈ WT := rk_mem (i := 216) rfl rfl
theorem co_K_gatheredConflicts : (.code y_K_gatheredConflicts b_K_gatheredConflicts 3 (some .boolean) : Cond) ∈ WT := rk_mem (i := 228) rfl rfl
theorem co_K_addGatheredToCounts : (.code y_K_addGatheredToCounts b_K_addGatheredToCounts 3 none : Cond) ∈ WT := rk_mem (i := 248) rfl rfl
theorem co_K_clearGathered : (.code y_K_clearGathered b_K_clearGathered 2 none : Cond) ∈ WT := rk_mem (i := 76) rfl rfl
theorem co_K_followEdges : (.code y_K_followEdges b_K_followEdges 1 none : Cond) ∈ WT := rk_mem (i := 256) rfl rfl
theorem co_K_sumOfCounts : (.code y_K_sumOfCounts b_K_sumOfCounts 3 (some .int) : Cond) ∈ WT := rk_mem (i := 94) rfl rfl
theorem co_M_init : (.code y_M_init b_M_init 1 none : Cond) ∈ WT := rk_mem (i := 346) rfl rfl
theorem co_M_thrown : (.code y_M_thrown b_M_thrown 1 (some .int) : Cond) ∈ WT := rk_mem (i := 380) rfl rfl
theorem co_M_isVertex : (.code y_M_isVertex b_M_isVertex 1 (some .boolean) : Cond) ∈ WT := rk_mem (i := 387) rfl rfl
theorem co_M_change : (.code y_M_change b_M_change 4 (some .int) : Cond) ∈ WT := rk_mem (i := 384) rfl rfl
theorem co_M_forget : (.code y_M_forget b_M_forget 2 (some .int) : Cond) ∈ WT := rk_mem (i := 391) rfl rfl
theorem co_M_apply : (.code y_M_apply b_M_apply 4 (some .int) : Cond) ∈ WT := rk_mem (i := 395) rfl rfl
theorem co_M_many : (.code y_M_many b_M_many 4 (some .int) : Cond) ∈ WT := rk_mem (i := 399) rfl rfl
theorem co_M_holds : (.code y_M_holds b_M_holds 3 (some .boolean) : Cond) ∈ WT := rk_mem (i := 403) rfl rfl
theorem co_M_other : (.code y_M_other b_M_other 5 (some .int) : Cond) ∈ WT := rk_mem (i := 411) rfl rfl
theorem co_M_came : (.code y_M_came b_M_came 2 (some .int) : Cond) ∈ WT := rk_mem (i := 407) rfl rfl
theorem co_M_went : (.code y_M_went b_M_went 2 (some .int) : Cond) ∈ WT := rk_mem (i := 415) rfl rfl
theorem co_M_distance : (.code y_M_distance b_M_distance 6 (some .int) : Cond) ∈ WT := rk_mem (i := 419) rfl rfl
theorem co_M_times : (.code y_M_times b_M_times 3 (some .int) : Cond) ∈ WT := rk_mem (i := 423) rfl rfl
theorem co_M_count : (.code y_M_count b_M_count 10 (some .int) : Cond) ∈ WT := rk_mem (i := 427) rfl rfl
theorem co_L_change : (.codeWith y_L_change b_L_change 6 (some .int) [(0, 12, 15, 13), (0, 12, 19, 15)] : Cond) ∈ WT := rk_mem (i := 116) rfl rfl
theorem co_L_apply : (.codeWith y_L_apply b_L_apply 3 (some .int) [(0, 8, 11, 21)] : Cond) ∈ WT := rk_mem (i := 219) rfl rfl
theorem co_L_holds : (.codeWith y_L_holds b_L_holds 5 (some .int) [(0, 17, 20, 13)] : Cond) ∈ WT := rk_mem (i := 271) rfl rfl
theorem co_L_came : (.codeWith y_L_came b_L_came 4 (some .int) [(0, 9, 12, 31)] : Cond) ∈ WT := rk_mem (i := 279) rfl rfl
theorem co_L_went : (.codeWith y_L_went b_L_went 4 (some .int) [(0, 9, 12, 31)] : Cond) ∈ WT := rk_mem (i := 314) rfl rfl
theorem co_L_distance : (.codeWith y_L_distance b_L_distance 5 (some .int) [(0, 10, 13, 13), (0, 10, 17, 31)] : Cond) ∈ WT := rk_mem (i := 321) rfl rfl
theorem co_L_times : (.codeWith y_L_times b_L_times 5 (some .int) [(0, 10, 13, 13)] : Cond) ∈ WT := rk_mem (i := 337) rfl rfl
theorem co_JI_bitCount : (.code y_JI_bitCount b_JI_bitCount 1 (some .int) : Cond) ∈ WT := rk_mem (i := 87) rfl rfl
end
section
/-! ===== Int32 by its bits: bt x i ===== -/
def bt (x : Int32) (i : Nat) : Bool := x.toBitVec.getLsbD i
theorem b_ext {x y : Int32} (h : ∀ i, i < 32 → bt x i = bt y i) : x = y := Int32.toBitVec_inj.mp (BitVec.eq_of_getLsbD_eq (fun i hi => h i hi))
theorem b_or (x y : Int32) (i : Nat) : bt (x ||| y) i = (bt x i || bt y i) := by unfold bt; rw [Int32.toBitVec_or, BitVec.getLsbD_or]
theorem b_and (x y : Int32) (i : Nat) : bt (x &&& y) i = (bt x i && bt y i) := by unfold bt; rw [Int32.toBitVec_and, BitVec.getLsbD_and]
theorem b_xor (x y : Int32) (i : Nat) : bt (x ^^^ y) i = (bt x i ^^ bt y i) := by unfold bt; rw [Int32.toBitVec_xor, BitVec.getLsbD_xor]
theorem b_big {x : Int32} {i : Nat} (h : 32 ≤ i) : bt x i = false := BitVec.getLsbD_of_ge _ _ h
theorem b_255 (i : Nat) : bt 255 i = decide (i < 8) := by
  rcases Nat.lt_or_ge i 32 with h | h
  · exact (by decide +kernel : ∀ i, i < 32 → bt 255 i = decide (i < 8)) i h
  · rw [b_big h, decide_eq_false (by omega)]
theorem b_65535 (i : Nat) : bt 65535 i = decide (i < 16) := by
  rcases Nat.lt_or_ge i 32 with h | h
  · exact (by decide +kernel : ∀ i, i < 32 → bt 65535 i = decide (i < 16)) i h
  · rw [b_big h, decide_eq_false (by omega)]
theorem b_m1 : ∀ i, i < 32 → bt (-1) i = true := by decide +kernel
theorem b_0 (i : Nat) : bt 0 i = false := BitVec.getLsbD_zero
theorem s_l : ∀ n, n < 32 → ((nI n &&& 31).toBitVec.smod 32).toNat = n := by decide +kernel
theorem s_u : ∀ n, n < 32 → (((nI n).toUInt32 &&& Int32.toUInt32 31).toBitVec % 32).toNat = n := by decide +kernel
theorem b_shl (n : Nat) (hn : n < 32) (x : Int32) {i : Nat} (hi : i < 32) : bt (x <<< (nI n &&& 31)) i = (decide (n ≤ i) && bt x (i - n)) := by
  unfold bt
  rw [Int32.toBitVec_shiftLeft]
  show (x.toBitVec <<< ((nI n &&& 31).toBitVec.smod 32).toNat).getLsbD i = _
  rw [s_l n hn, BitVec.getLsbD_shiftLeft]
  rcases Nat.lt_or_ge i n with h | h
  · simp [h, Nat.not_le.mpr h]
  · simp [hi, h, Nat.not_lt.mpr h]
theorem b_ushr (n : Nat) (hn : n < 32) (x : Int32) (i : Nat) : bt ((x.toUInt32 >>> ((nI n).toUInt32 &&& Int32.toUInt32 31)).toInt32) i = bt x (n + i) := by
  show (x.toUInt32 >>> ((nI n).toUInt32 &&& Int32.toUInt32 31)).toBitVec.getLsbD i = x.toUInt32.toBitVec.getLsbD (n + i)
  rw [UInt32.toBitVec_shiftRight]
  show (x.toUInt32.toBitVec >>> (((nI n).toUInt32 &&& Int32.toUInt32 31).toBitVec % 32).toNat).getLsbD i = _
  rw [s_u n hn, BitVec.getLsbD_ushiftRight]
theorem b_sshr (n : Nat) (hn : n < 32) (x : Int32) {i : Nat} (hi : i < 32) : bt (x >>> (nI n &&& 31)) i = if n + i < 32 then bt x (n + i) else bt x 31 := by
  unfold bt
  rw [Int32.toBitVec_shiftRight]
  show (x.toBitVec.sshiftRight ((nI n &&& 31).toBitVec.smod 32).toNat).getLsbD i = _
  rw [s_l n hn, BitVec.getLsbD_sshiftRight, BitVec.msb_eq_getLsbD_last]
  simp [hi]
theorem b_shl8 (x : Int32) {i : Nat} (hi : i < 32) : bt (x <<< ((8 : Int32) &&& 31)) i = (decide (8 ≤ i) && bt x (i - 8)) := b_shl 8 (by omega) x hi
theorem b_shl16 (x : Int32) {i : Nat} (hi : i < 32) : bt (x <<< ((16 : Int32) &&& 31)) i = (decide (16 ≤ i) && bt x (i - 16)) := b_shl 16 (by omega) x hi
theorem b_shl24 (x : Int32) {i : Nat} (hi : i < 32) : bt (x <<< ((24 : Int32) &&& 31)) i = (decide (24 ≤ i) && bt x (i - 24)) := b_shl 24 (by omega) x hi
theorem b_sshr8 (x : Int32) {i : Nat} (hi : i < 32) : bt (x >>> ((8 : Int32) &&& 31)) i = if 8 + i < 32 then bt x (8 + i) else bt x 31 := b_sshr 8 (by omega) x hi
/-! ===== nI under and, xor, >>>, one bit, 65535 ===== -/
theorem nx_and (a b : Nat) : nI a &&& nI b = nI (a &&& b) := by
  apply Int32.toBitVec_inj.1
  show BitVec.ofNat 32 a &&& BitVec.ofNat 32 b = BitVec.ofNat 32 (a &&& b)
  apply BitVec.eq_of_getLsbD_eq
  intro i hi
  simp [hi]
/-! pure rows: counts, bit rows, Warshall's way, ways by steps, sums of changes -/
def zI (b : Bool) : Int32 := if b then 1 else 0
theorem zI_0 {b : Bool} : zI b = 0 ↔ b = false := by cases b <;> decide
theorem zI_n {b : Bool} : ¬ zI b = 0 ↔ b = true := by cases b <;> decide
theorem zI_t : zI true = 1 := rfl
theorem zI_f : zI false = 0 := rfl
theorem zI_inj {a b : Bool} : zI a = zI b ↔ a = b := by cases a <;> cases b <;> decide
/-- how many below n -/
def rk_c (f : Nat → Bool) : Nat → Nat
  | 0 => 0
  | n + 1 => rk_c f n + (f n).toNat
theorem rk_c_s (f : Nat → Bool) (n : Nat) : rk_c f (n + 1) = rk_c f n + (f n).toNat := rfl
theorem rk_c_t {f : Nat → Bool} {n : Nat} (h : f n = true) : rk_c f (n + 1) = rk_c f n + 1 := by rw [rk_c_s, h]; rfl
theorem rk_c_f {f : Nat → Bool} {n : Nat} (h : f n = false) : rk_c f (n + 1) = rk_c f n := by rw [rk_c_s, h]; rfl
theorem rk_c_le (f : Nat → Bool) (n : Nat) : rk_c f n ≤ n := by
  induction n with
  | zero => exact Nat.le_refl _
  | succ n ih =>
    have h : (f n).toNat ≤ 1 := Bool.toNat_le _
    rw [rk_c_s]
    omega
theorem rk_c_congr {f g : Nat → Bool} {n : Nat} (h : ∀ j, j < n → f j = g j) : rk_c f n = rk_c g n := by
  induction n with
  | zero => rfl
  | succ n ih => rw [rk_c_s, rk_c_s, ih (fun j hj => h j (by omega)), h n (by omega)]
theorem rk_c_add (f : Nat → Bool) (a b : Nat) : rk_c f (a + b) = rk_c f a + rk_c (fun j => f (a + j)) b := by
  induction b with
  | zero => rfl
  | succ b ih =>
    rw [← Nat.add_assoc, rk_c_s, rk_c_s, ih]
    omega
theorem rk_c_mono (f : Nat → Bool) {m n : Nat} (h : m ≤ n) : rk_c f m ≤ rk_c f n := by
  obtain ⟨k, rfl⟩ := Nat.exists_eq_add_of_le h
  rw [rk_c_add]
  omega
theorem rk_c_lt {f : Nat → Bool} {p n : Nat} (hf : f p = true) (h : p < n) : rk_c f p < rk_c f n := by
  have h1 := rk_c_t hf
  have h2 := rk_c_mono f (show p + 1 ≤ n from h)
  omega
theorem rk_c_inj {f : Nat → Bool} {p q : Nat} (hp : f p = true) (hq : f q = true) (h : rk_c f p = rk_c f q) : p = q := by
  rcases Nat.lt_trichotomy p q with c | c | c
  · have := rk_c_lt hp c
    omega
  · exact c
  · have := rk_c_lt hq c
    omega
theorem rk_c_sub {f g : Nat → Bool} {n : Nat} (h : ∀ j, j < n → f j = true → g j = true) : rk_c f n ≤ rk_c g n := by
  induction n with
  | zero => exact Nat.le_refl _
  | succ n ih =>
    have h1 := ih (fun j hj => h j (by omega))
    have h2 := h n (by omega)
    rw [rk_c_s, rk_c_s]
    cases hf : f n
    · have : (false).toNat = 0 := rfl
      omega
    · rw [h2 hf]
      omega
theorem rk_c_same {f g : Nat → Bool} {n : Nat} (h : ∀ j, j < n → f j = true → g j = true) (hc : rk_c f n = rk_c g n) : ∀ j, j < n → g j = f j := by
  induction n with
  | zero => intro j hj; omega
  | succ n ih =>
    have h1 : rk_c f n ≤ rk_c g n := rk_c_sub (fun j hj => h j (by omega))
    have h2 := h n (by omega)
    rw [rk_c_s, rk_c_s] at hc
    have e0 : (false).toNat = 0 := rfl
    have e1 : (true).toNat = 1 := rfl
    have h3 : g n = f n := by
      cases hf : f n
      · cases hg : g n
        · rfl
        · rw [hf, hg] at hc
          omega
      · exact h2 hf
    rw [h3] at hc
    intro j hj
    rcases Nat.lt_or_ge j n with c | c
    · exact ih (fun j hj => h j (by omega)) (by omega) j c
    · rw [show j = n by omega]
      exact h3
theorem rk_c_0 {f : Nat → Bool} {n : Nat} (h : rk_c f n = 0) : ∀ j, j < n → f j = false := by
  intro j hj
  cases hf : f j
  · rfl
  · have := rk_c_lt hf hj
    omega
/-- is there one below n -/
def rk_any (f : Nat → Bool) : Nat → Bool
  | 0 => false
  | n + 1 => rk_any f n || f n
theorem rk_any_s (f : Nat → Bool) (n : Nat) : rk_any f (n + 1) = (rk_any f n || f n) := rfl
theorem rk_any_iff {f : Nat → Bool} {n : Nat} : rk_any f n = true ↔ ∃ j, j < n ∧ f j = true := by
  induction n with
  | zero => exact ⟨fun h => (by cases h), fun ⟨j, hj, _⟩ => (by omega)⟩
  | succ n ih =>
    rw [rk_any_s, Bool.or_eq_true, ih]
    constructor
    · rintro (⟨j, hj, hf⟩ | h)
      · exact ⟨j, by omega, hf⟩
      · exact ⟨n, by omega, h⟩
    · rintro ⟨j, hj, hf⟩
      rcases Nat.lt_or_ge j n with c | c
      · exact Or.inl ⟨j, c, hf⟩
      · rw [show j = n by omega] at hf
        exact Or.inr hf
theorem rk_any_no {f : Nat → Bool} {n : Nat} : rk_any f n = false ↔ ∀ j, j < n → f j = false := by
  constructor
  · intro h j hj
    cases hf : f j
    · rfl
    · rw [rk_any_iff.mpr ⟨j, hj, hf⟩] at h
      cases h
  · intro h
    cases hf : rk_any f n
    · rfl
    · obtain ⟨j, hj, h1⟩ := rk_any_iff.mp hf
      rw [h j hj] at h1
      cases h1
theorem rk_any_congr {f g : Nat → Bool} {n : Nat} (h : ∀ j, j < n → f j = g j) : rk_any f n = rk_any g n := by
  induction n with
  | zero => rfl
  | succ n ih => rw [rk_any_s, rk_any_s, ih (fun j hj => h j (by omega)), h n (by omega)]
/-- the rows r hold the pairs h -/
def rk_R (r : Nat → Int32) (h : Nat → Bool) : Prop := ∀ a, a < 32 → ∀ b, b < 32 → bt (r a) b = h (32 * a + b)
theorem rk_R.to {r : Nat → Int32} {h g : Nat → Bool} (H : rk_R r h) (e : ∀ p, p < 1024 → h p = g p) : rk_R r g := fun a ha b hb => by rw [H a ha b hb, e _ (by omega)]
def rk_sz (r : Nat → Int32) : Nat → Nat
  | 0 => 0
  | a + 1 => rk_sz r a + rk_c (bt (r a)) 32
theorem rk_sz_s (r : Nat → Int32) (a : Nat) : rk_sz r (a + 1) = rk_sz r a + rk_c (bt (r a)) 32 := rfl
theorem rk_sz_le (r : Nat → Int32) (n : Nat) : rk_sz r n ≤ 32 * n := by
  induction n with
  | zero => exact Nat.le_refl _
  | succ n ih =>
    have := rk_c_le (bt (r n)) 32
    rw [rk_sz_s]
    omega
theorem rk_sz_eq {r : Nat → Int32} {h : Nat → Bool} (H : rk_R r h) {n : Nat} (hn : n ≤ 32) : rk_sz r n = rk_c h (32 * n) := by
  induction n with
  | zero => rfl
  | succ n ih => rw [rk_sz_s, ih (by omega), show 32 * (n + 1) = 32 * n + 32 by omega, rk_c_add, rk_c_congr (fun j hj => H n (by omega) j hj)]
/-- the pair at place i, or none -/
def rk_nth (h : Nat → Bool) (i res : Int32) : Prop := (∃ p, p < 1024 ∧ h p = true ∧ i = nI (rk_c h p) ∧ res = nI p) ∨ ((∀ p, p < 1024 → h p = true → i ≠ nI (rk_c h p)) ∧ res = -1)
theorem rk_nI_ne (p : Nat) (hp : p < 2 ^ 31) : nI p ≠ -1 := by
  intro h
  have h1 := nI_toInt hp
  rw [h] at h1
  have h2 : (-1 : Int32).toInt = -1 := by decide
  omega
/-! Warshall's way -/
def rk_j (v a : Nat) (h : Nat → Bool) : Nat → Bool := fun p => if p / 32 = a ∧ h (32 * a + v) = true then h p || h (32 * v + p % 32) else h p
def rk_ja (v : Nat) : Nat → (Nat → Bool) → Nat → Bool
  | 0, h => h
  | n + 1, h => rk_j v n (rk_ja v n h)
def rk_jv : Nat → (Nat → Bool) → Nat → Bool
  | 0, h => h
  | v + 1, h => rk_ja v 32 (rk_jv v h)
theorem rk_j_at {v a : Nat} {h : Nat → Bool} {x y : Nat} (hy : y < 32) : rk_j v a h (32 * x + y) = if x = a ∧ h (32 * a + v) = true then h (32 * x + y) || h (32 * v + y) else h (32 * x + y) := by
  unfold rk_j
  rw [show (32 * x + y) / 32 = x by omega, show (32 * x + y) % 32 = y by omega]
theorem rk_ja_at {v : Nat} (hv : v < 32) (h : Nat → Bool) (n : Nat) {x y : Nat} (hy : y < 32) : rk_ja v n h (32 * x + y) = if x < n then h (32 * x + y) || (h (32 * x + v) && h (32 * v + y)) else h (32 * x + y) := by
  induction n generalizing x y with
  | zero => rfl
  | succ n ih =>
    show rk_j v n (rk_ja v n h) (32 * x + y) = _
    rw [rk_j_at hy, ih hy, ih hv, ih hy]
    have e1 : (if n < n then h (32 * n + v) || (h (32 * n + v) && h (32 * v + v)) else h (32 * n + v)) = h (32 * n + v) := if_neg (by omega)
    have e2 : (if v < n then h (32 * v + y) || (h (32 * v + v) && h (32 * v + y)) else h (32 * v + y)) = h (32 * v + y) := by
      split
      · cases h (32 * v + y) <;> simp
      · rfl
    rw [e1, e2]
    by_cases hx : x = n
    · subst hx
      rw [if_neg (show ¬ x < x by omega), if_pos (show x < x + 1 by omega)]
      cases h (32 * x + v) <;> simp
    · rw [if_neg (fun z => hx z.1)]
      by_cases hl : x < n
      · rw [if_pos hl, if_pos (by omega)]
      · rw [if_neg hl, if_neg (by omega)]
theorem rk_jv_at {h : Nat → Bool} {v x y : Nat} (hv : v < 32) (hx : x < 32) (hy : y < 32) : rk_jv (v + 1) h (32 * x + y) = (rk_jv v h (32 * x + y) || (rk_jv v h (32 * x + v) && rk_jv v h (32 * v + y))) := by
  show rk_ja v 32 (rk_jv v h) (32 * x + y) = _
  rw [rk_ja_at hv _ _ hy, if_pos hx]
theorem rk_j_R {r : Nat → Int32} {h : Nat → Bool} {v a : Nat} (H : rk_R r h) (hv : v < 32) (ha : a < 32) (hb : bt (r a) v = true) : rk_R (upd r a (r a ||| r v)) (rk_j v a h) := by
  intro x hx y hy
  rw [rk_j_at hy]
  rw [H a ha v hv] at hb
  by_cases e : x = a
  · subst e
    rw [pk_us, b_or, if_pos ⟨rfl, hb⟩, H x hx y hy, H v hv y hy]
  · rw [pk_un e, if_neg (fun z => e z.1), H x hx y hy]
theorem rk_j_N {r : Nat → Int32} {h : Nat → Bool} {v a : Nat} (H : rk_R r h) (hv : v < 32) (ha : a < 32) (hb : bt (r a) v = false) : rk_R r (rk_j v a h) := by
  intro x hx y hy
  rw [rk_j_at hy]
  rw [H a ha v hv] at hb
  rw [if_neg (fun z => by rw [hb] at z; cases z.2), H x hx y hy]
/-! ways by steps: from a to b by at most k + 1 edges -/
def rk_w (e : Nat → Bool) (a : Nat) : Nat → Nat → Bool
  | 0, b => e (32 * a + b)
  | k + 1, b => rk_w e a k b || rk_any (fun v => rk_w e a k v && e (32 * v + b)) 32
theorem rk_w_0 (e : Nat → Bool) (a b : Nat) : rk_w e a 0 b = e (32 * a + b) := rfl
theorem rk_w_s (e : Nat → Bool) (a k b : Nat) : rk_w e a (k + 1) b = (rk_w e a k b || rk_any (fun v => rk_w e a k v && e (32 * v + b)) 32) := rfl
theorem rk_w_up {e : Nat → Bool} {a k b : Nat} (h : rk_w e a k b = true) : rk_w e a (k + 1) b = true := by rw [rk_w_s, h]; rfl
theorem rk_w_mono {e : Nat → Bool} {a k j b : Nat} (hj : k ≤ j) (h : rk_w e a k b = true) : rk_w e a j b = true := by
  obtain ⟨i, rfl⟩ := Nat.exists_eq_add_of_le hj
  clear hj
  induction i with
  | zero => exact h
  | succ i ih => exact rk_w_up ih
theorem rk_w_step {e : Nat → Bool} {a k v b : Nat} (hv : v < 32) (h : rk_w e a k v = true) (he : e (32 * v + b) = true) : rk_w e a (k + 1) b = true := by
  rw [rk_w_s, rk_any_iff.mpr ⟨v, hv, by rw [h, he]; rfl⟩, Bool.or_true]
theorem rk_w_cut {e : Nat → Bool} {a k b : Nat} (h : rk_w e a (k + 1) b = true) : rk_w e a k b = true ∨ ∃ v, v < 32 ∧ rk_w e a k v = true ∧ e (32 * v + b) = true := by
  rw [rk_w_s, Bool.or_eq_true] at h
  rcases h with h | h
  · exact Or.inl h
  · obtain ⟨v, hv, h1⟩ := rk_any_iff.mp h
    rw [Bool.and_eq_true] at h1
    exact Or.inr ⟨v, hv, h1.1, h1.2⟩
theorem rk_w_trans {e : Nat → Bool} {a v : Nat} (hv : v < 32) (h : ∃ k, rk_w e a k v = true) (k : Nat) : ∀ b, rk_w e v k b = true → ∃ j, rk_w e a j b = true := by
  induction k with
  | zero =>
    intro b hb
    obtain ⟨k, hk⟩ := h
    exact ⟨k + 1, rk_w_step hv hk hb⟩
  | succ k ih =>
    intro b hb
    rcases rk_w_cut hb with h1 | ⟨u, hu, h1, h2⟩
    · exact ih b h1
    · obtain ⟨j, hj⟩ := ih u h1
      exact ⟨j + 1, rk_w_step hu hj h2⟩
/-- no way is lost that needs more than 32 edges -/
theorem rk_w_32 {e : Nat → Bool} {a b : Nat} (hb : b < 32) {K : Nat} (h : rk_w e a K b = true) : ∃ k, k < 32 ∧ rk_w e a k b = true ∧ ∀ j, j < k → rk_w e a j b = false := by
  obtain ⟨k, hk, hl⟩ := pk_least (fun k => rk_w e a k b = true) ⟨K, h⟩
  refine ⟨k, ?_, hk, fun j hj => by cases hf : rk_w e a j b; rfl; exact absurd hf (hl j hj)⟩
  rcases Nat.lt_or_ge k 32 with c | c
  · exact c
  · exfalso
    have stuck : ∀ i, i < k → ¬ ∀ x, x < 32 → rk_w e a (i + 1) x = rk_w e a i x := by
      intro i hi hs
      have hall : ∀ d x, x < 32 → rk_w e a (i + d) x = rk_w e a i x := by
        intro d
        induction d with
        | zero => intro x _; rfl
        | succ d ih =>
          intro x hx
          rw [← hs x hx, ← Nat.add_assoc, rk_w_s, rk_w_s, ih x hx]
          congr 1
          exact rk_any_congr (fun v hv => by rw [ih v hv])
      have h1 := hall (k - i) b hb
      rw [show i + (k - i) = k by omega, hk] at h1
      exact hl i hi h1.symm
    have grow : ∀ i, i ≤ k → i + 1 ≤ rk_c (rk_w e a i) 32 := by
      intro i
      induction i with
      | zero =>
        intro _
        rcases Nat.eq_zero_or_pos (rk_c (rk_w e a 0) 32) with z | z
        · exfalso
          have h0 := rk_c_0 z
          refine stuck 0 (by omega) (fun x hx => ?_)
          rw [rk_w_s, rk_any_no.mpr (fun v hv => by rw [h0 v hv]; rfl), Bool.or_false]
        · omega
      | succ i ih =>
        intro hi
        have h1 := ih (by omega)
        have h2 : rk_c (rk_w e a i) 32 ≤ rk_c (rk_w e a (i + 1)) 32 := rk_c_sub (fun j _ hj => rk_w_up hj)
        rcases Nat.eq_or_lt_of_le h2 with z | z
        · exact absurd (rk_c_same (fun j _ hj => rk_w_up hj) z) (stuck i (by omega))
        · omega
    have h1 := grow k (Nat.le_refl _)
    have h2 := rk_c_le (rk_w e a k) 32
    omega
theorem rk_sound {e : Nat → Bool} {v : Nat} : v ≤ 32 → ∀ x y, x < 32 → y < 32 → rk_jv v e (32 * x + y) = true → ∃ k, rk_w e x k y = true := by
  induction v with
  | zero => intro _ x y _ _ h; exact ⟨0, h⟩
  | succ v ih =>
    intro hv x y hx hy h
    rw [rk_jv_at (by omega) hx hy, Bool.or_eq_true, Bool.and_eq_true] at h
    rcases h with h | ⟨h1, h2⟩
    · exact ih (by omega) x y hx hy h
    · obtain ⟨k, hk⟩ := ih (by omega) v y (by omega) hy h2
      exact rk_w_trans (by omega) (ih (by omega) x v hx (by omega) h1) k y hk
theorem rk_jv_up {e : Nat → Bool} {v x y : Nat} (hv : v ≤ 32) (hx : x < 32) (hy : y < 32) (h : e (32 * x + y) = true) : rk_jv v e (32 * x + y) = true := by
  induction v with
  | zero => exact h
  | succ v ih => rw [rk_jv_at (by omega) hx hy, ih (by omega)]; rfl
theorem rk_closed {e : Nat → Bool} {v : Nat} : v ≤ 32 → ∀ u x y, u < v → x < 32 → y < 32 → rk_jv v e (32 * x + u) = true → rk_jv v e (32 * u + y) = true → rk_jv v e (32 * x + y) = true := by
  induction v with
  | zero => intro _ u x y hu; omega
  | succ v ih =>
    intro hv u x y hu hx hy h1 h2
    have hv' : v < 32 := by omega
    rw [rk_jv_at hv' hx (by omega), Bool.or_eq_true, Bool.and_eq_true] at h1
    rw [rk_jv_at hv' (by omega) hy, Bool.or_eq_true, Bool.and_eq_true] at h2
    rw [rk_jv_at hv' hx hy, Bool.or_eq_true, Bool.and_eq_true]
    by_cases e1 : u = v
    · subst e1
      have g1 : rk_jv u e (32 * x + u) = true := by rcases h1 with h | h; exact h; exact h.1
      have g2 : rk_jv u e (32 * u + y) = true := by rcases h2 with h | h; exact h; exact h.2
      exact Or.inr ⟨g1, g2⟩
    · have hu' : u < v := by omega
      have tr := ih (by omega) u
      rcases h1 with h1 | ⟨h1, h3⟩
      · rcases h2 with h2 | ⟨h2, h4⟩
        · exact Or.inl (tr x y hu' hx hy h1 h2)
        · exact Or.inr ⟨tr x v hu' hx hv' h1 h2, h4⟩
      · rcases h2 with h2 | ⟨h2, h4⟩
        · exact Or.inr ⟨h1, tr v y hu' hv' hy h3 h2⟩
        · exact Or.inr ⟨h1, h4⟩
theorem rk_reach {e : Nat → Bool} {a b : Nat} (ha : a < 32) (hb : b < 32) : rk_jv 32 e (32 * a + b) = true ↔ ∃ k, rk_w e a k b = true := by
  constructor
  · exact rk_sound (Nat.le_refl _) a b ha hb
  rintro ⟨k, hk⟩
  induction k generalizing b with
  | zero => exact rk_jv_up (Nat.le_refl _) ha hb hk
  | succ k ih =>
    rcases rk_w_cut hk with h | ⟨v, hv, h1, h2⟩
    · exact ih hb h
    · exact rk_closed (Nat.le_refl _) v a b hv ha hb (ih hv h1) (rk_jv_up (Nat.le_refl _) hv hb h2)
theorem rk_jv_none {e : Nat → Bool} (h : ∀ p, p < 1024 → e p = false) : ∀ p, p < 1024 → rk_jv 32 e p = false := by
  intro p hp
  cases hf : rk_jv 32 e p
  · rfl
  · exfalso
    have hp2 : p = 32 * (p / 32) + p % 32 := by omega
    rw [hp2] at hf
    obtain ⟨k, hk⟩ := (rk_reach (show p / 32 < 32 by omega) (show p % 32 < 32 by omega)).mp hf
    have : ∀ k b, b < 32 → rk_w e (p / 32) k b = false := by
      intro k
      induction k with
      | zero => intro b hb; exact h _ (by omega)
      | succ k ih => intro b hb; rw [rk_w_s, ih b hb, rk_any_no.mpr (fun v hv => by rw [ih v hv]; rfl)]; rfl
    rw [this k _ (by omega)] at hk
    cases hk
theorem rk_w_congr {e g : Nat → Bool} (h : ∀ p, p < 1024 → e p = g p) {a : Nat} (ha : a < 32) (k : Nat) : ∀ b, b < 32 → rk_w e a k b = rk_w g a k b := by
  induction k with
  | zero => intro b hb; exact h _ (by omega)
  | succ k ih => intro b hb; rw [rk_w_s, rk_w_s, ih b hb, rk_any_congr (fun v hv => by rw [ih v hv, h (32 * v + b) (by omega)])]
theorem rk_jv_congr {e g : Nat → Bool} (h : ∀ p, p < 1024 → e p = g p) : ∀ p, p < 1024 → rk_jv 32 e p = rk_jv 32 g p := by
  intro p hp
  have hp2 : p = 32 * (p / 32) + p % 32 := by omega
  have key : ∀ e' g' : Nat → Bool, (∀ p, p < 1024 → e' p = g' p) → rk_jv 32 e' p = true → rk_jv 32 g' p = true := by
    intro e' g' h' hf
    rw [hp2] at hf ⊢
    obtain ⟨k, hk⟩ := (rk_reach (show p / 32 < 32 by omega) (show p % 32 < 32 by omega)).mp hf
    exact (rk_reach (show p / 32 < 32 by omega) (show p % 32 < 32 by omega)).mpr ⟨k, by rw [← rk_w_congr h' (by omega) k _ (by omega)]; exact hk⟩
  cases h1 : rk_jv 32 e p
  · cases h2 : rk_jv 32 g p
    · rfl
    · rw [key g e (fun q hq => (h q hq).symm) h2] at h1
      cases h1
  · rw [key e g h h1]
/-- what distance answers: the least k, plus one; or none -/
def rk_dist (e : Nat → Bool) (a b : Nat) (res : Int32) : Prop := (∃ k, k < 32 ∧ rk_w e a k b = true ∧ (∀ j, j < k → rk_w e a j b = false) ∧ res = nI (k + 1)) ∨ ((∀ k, k < 32 → rk_w e a k b = false) ∧ res = -1)
/-! the reference's rounds: how far, by rounds up to k -/
def rk_d (e : Nat → Bool) (a : Nat) : Nat → Nat → Nat
  | 0, b => if e (32 * a + b) = true then 1 else 0
  | k + 1, b => if rk_d e a k b = 0 ∧ rk_w e a (k + 1) b = true then k + 2 else rk_d e a k b
theorem rk_d_s (e : Nat → Bool) (a k b : Nat) : rk_d e a (k + 1) b = if rk_d e a k b = 0 ∧ rk_w e a (k + 1) b = true then k + 2 else rk_d e a k b := rfl
theorem rk_d_0 {e : Nat → Bool} {a k b : Nat} : rk_d e a k b = 0 ↔ rk_w e a k b = false := by
  induction k with
  | zero =>
    show (if e (32 * a + b) = true then 1 else 0) = 0 ↔ e (32 * a + b) = false
    cases e (32 * a + b) <;> simp
  | succ k ih =>
    rw [rk_d_s]
    cases h : rk_w e a (k + 1) b
    · have h1 : rk_w e a k b = false := by
        cases h2 : rk_w e a k b
        · rfl
        · rw [rk_w_up h2] at h
          cases h
      simp [ih.mpr h1]
    · by_cases h1 : rk_d e a k b = 0
      · simp [h1]
      · simp [h1]
theorem rk_d_le (e : Nat → Bool) (a k b : Nat) : rk_d e a k b ≤ k + 1 := by
  induction k with
  | zero =>
    show (if e (32 * a + b) = true then 1 else 0) ≤ 1
    split <;> omega
  | succ k ih =>
    rw [rk_d_s]
    split <;> omega
theorem rk_d_new {e : Nat → Bool} {a k b : Nat} (h : rk_w e a k b = true) (hn : ∀ j, j < k → rk_w e a j b = false) : rk_d e a k b = k + 1 := by
  cases k with
  | zero =>
    show (if e (32 * a + b) = true then 1 else 0) = 1
    rw [if_pos (show e (32 * a + b) = true from h)]
  | succ k => rw [rk_d_s, if_pos ⟨rk_d_0.mpr (hn k (by omega)), h⟩]
theorem rk_d_front {e : Nat → Bool} {a k b : Nat} (h : rk_d e a k b = k + 1) : rk_w e a k b = true := by
  cases h1 : rk_w e a k b
  · rw [rk_d_0.mpr h1] at h
    omega
  · rfl
/-- one round: who is told that is new -/
theorem rk_d_round {e : Nat → Bool} {a k x : Nat} (hx : x < 32) (h0 : rk_d e a k x = 0) : rk_w e a (k + 1) x = rk_any (fun c => decide (rk_d e a k c = k + 1) && e (32 * c + x)) 32 := by
  have hw := rk_d_0.mp h0
  cases h : rk_any (fun c => decide (rk_d e a k c = k + 1) && e (32 * c + x)) 32
  · cases h2 : rk_w e a (k + 1) x
    · rfl
    · exfalso
      rcases rk_w_cut h2 with h3 | ⟨v, hv, h3, h4⟩
      · rw [hw] at h3
        cases h3
      · have h5 := rk_any_no.mp h v hv
        rw [h4, Bool.and_true, decide_eq_false_iff_not] at h5
        cases k with
        | zero =>
          apply h5
          show (if e (32 * a + v) = true then 1 else 0) = 1
          rw [if_pos (show e (32 * a + v) = true from h3)]
        | succ k =>
          cases h6 : rk_w e a k v
          · exact h5 (by rw [rk_d_s, if_pos ⟨rk_d_0.mpr h6, h3⟩])
          · rw [rk_w_step hv h6 h4] at hw
            cases hw
  · obtain ⟨c, hc, h1⟩ := rk_any_iff.mp h
    rw [Bool.and_eq_true, decide_eq_true_eq] at h1
    exact rk_w_step hc (rk_d_front h1.1) h1.2
/-! sums of the gathered changes -/
def rk_s (P : Nat → Nat) (d : Nat → Int32) : Nat → Nat → Int32
  | 0, _ => 0
  | k + 1, p => rk_s P d k p + (if P k = p then d k else 0)
theorem rk_s_s (P : Nat → Nat) (d : Nat → Int32) (k p : Nat) : rk_s P d (k + 1) p = rk_s P d k p + (if P k = p then d k else 0) := rfl
theorem rk_s_congr {P Q : Nat → Nat} {d g : Nat → Int32} {k : Nat} (hP : ∀ j, j < k → P j = Q j) (hd : ∀ j, j < k → d j = g j) (p : Nat) : rk_s P d k p = rk_s Q g k p := by
  induction k with
  | zero => rfl
  | succ k ih => rw [rk_s_s, rk_s_s, ih (fun j hj => hP j (by omega)) (fun j hj => hd j (by omega)), hP k (by omega), hd k (by omega)]
def rk_in (P : Nat → Nat) (k p : Nat) : Bool := rk_any (fun j => P j == p) k
theorem rk_in_iff {P : Nat → Nat} {k p : Nat} : rk_in P k p = true ↔ ∃ j, j < k ∧ P j = p := by
  unfold rk_in
  rw [rk_any_iff]
  simp only [beq_iff_eq]
theorem rk_s_0 {P : Nat → Nat} {d : Nat → Int32} {k p : Nat} (h : rk_in P k p = false) : rk_s P d k p = 0 := by
  induction k with
  | zero => rfl
  | succ k ih =>
    have h1 := rk_any_no.mp h
    have h2 : ¬ P k = p := by
      have := h1 k (by omega)
      intro e
      rw [e, beq_self_eq_true] at this
      cases this
    rw [rk_s_s, if_neg h2, ih (rk_any_no.mpr (fun j hj => h1 j (by omega)))]
    decide
def rk_t (t : Nat → Int32) : Nat → Int32
  | 0 => 0
  | n + 1 => rk_t t n + t n
theorem rk_t_congr {t g : Nat → Int32} {n : Nat} (h : ∀ j, j < n → t j = g j) : rk_t t n = rk_t g n := by
  induction n with
  | zero => rfl
  | succ n ih =>
    show rk_t t n + t n = rk_t g n + g n
    rw [ih (fun j hj => h j (by omega)), h n (by omega)]
/-! Integer.bitCount in numbers -/
theorem pc_and {a b c d : Nat} (hb : b < 256) (hd : d < 256) : (256 * a + b) &&& (256 * c + d) = 256 * (a &&& c) + (b &&& d) := by
  have h1 : b &&& d < 2 ^ 8 := Nat.and_lt_two_pow _ hd
  have e1 : ∀ i, (256 * a + b).testBit i = if i < 8 then b.testBit i else a.testBit (i - 8) := fun i => Nat.testBit_two_pow_mul_add a (i := 8) hb i
  have e2 : ∀ i, (256 * c + d).testBit i = if i < 8 then d.testBit i else c.testBit (i - 8) := fun i => Nat.testBit_two_pow_mul_add c (i := 8) hd i
  have e3 : ∀ i, (256 * (a &&& c) + (b &&& d)).testBit i = if i < 8 then (b &&& d).testBit i else (a &&& c).testBit (i - 8) := fun i => Nat.testBit_two_pow_mul_add (a &&& c) (i := 8) h1 i
  apply Nat.eq_of_testBit_eq
  intro i
  rw [Nat.testBit_and, e1, e2, e3]
  by_cases h : i < 8
  · rw [if_pos h, if_pos h, if_pos h, Nat.testBit_and]
  · rw [if_neg h, if_neg h, if_neg h, Nat.testBit_and]
def pc_n (a b c d : Nat) : Nat := 256 * (256 * (256 * a + b) + c) + d
theorem pc_mask {m a b c d : Nat} (hm : m < 256) (hb : b < 256) (hc : c < 256) (hd : d < 256) : pc_n a b c d &&& pc_n m m m m = pc_n (a &&& m) (b &&& m) (c &&& m) (d &&& m) := by
  unfold pc_n
  rw [pc_and hd hm, pc_and hc hm, pc_and hb hm]
def pc_p (d : Nat) : Nat := rk_c (fun i => d.testBit i) 8
def pc_1 (d : Nat) : Nat := d - (d / 2 &&& 85)
def pc_2 (y : Nat) : Nat := (y &&& 51) + (y / 4 &&& 51)
theorem pc_d1 : ∀ d, d < 256 → ∀ c, c < 2 → ((d / 2 + 128 * c) &&& 85) = (d / 2 &&& 85) ∧ (d / 2 &&& 85) ≤ d ∧ d / 2 + 128 * c < 256 := by decide +kernel
theorem pc_d2 : ∀ y, y < 256 → ∀ c, c < 4 → ((y / 4 + 64 * c) &&& 51) = (y / 4 &&& 51) ∧ pc_2 y < 256 ∧ y / 4 + 64 * c < 256 := by decide +kernel
theorem pc_d3 : ∀ d, d < 256 → ∀ c, c < 5 → ((pc_2 (pc_1 d) + pc_2 (pc_1 d) / 16 + 16 * c) &&& 15) = pc_p d ∧ pc_2 (pc_1 d) + pc_2 (pc_1 d) / 16 + 16 * c < 256 ∧ pc_2 (pc_1 d) % 16 < 5 ∧ pc_1 d < 256 ∧ pc_p d ≤ 8 ∧ pc_2 (pc_1 d) ≤ 68 := by decide +kernel
theorem pc_s1 {a b c d : Nat} (ha : a < 256) (hb : b < 256) (hc : c < 256) (hd : d < 256) : pc_n a b c d - (pc_n a b c d / 2 &&& 1431655765) = pc_n (pc_1 a) (pc_1 b) (pc_1 c) (pc_1 d) := by
  have e : pc_n a b c d / 2 = pc_n (a / 2) (b / 2 + 128 * (a % 2)) (c / 2 + 128 * (b % 2)) (d / 2 + 128 * (c % 2)) := by unfold pc_n; omega
  obtain ⟨a1, a2, a3⟩ := pc_d1 a ha 0 (by omega)
  obtain ⟨b1, b2, b3⟩ := pc_d1 b hb (a % 2) (by omega)
  obtain ⟨c1, c2, c3⟩ := pc_d1 c hc (b % 2) (by omega)
  obtain ⟨d1, d2, d3⟩ := pc_d1 d hd (c % 2) (by omega)
  rw [e, show (1431655765 : Nat) = pc_n 85 85 85 85 from rfl, pc_mask (by omega) b3 c3 d3, b1, c1, d1]
  unfold pc_n pc_1
  omega
theorem pc_s2 {a b c d : Nat} (ha : a < 256) (hb : b < 256) (hc : c < 256) (hd : d < 256) : (pc_n a b c d &&& 858993459) + (pc_n a b c d / 4 &&& 858993459) = pc_n (pc_2 a) (pc_2 b) (pc_2 c) (pc_2 d) := by
  have e : pc_n a b c d / 4 = pc_n (a / 4) (b / 4 + 64 * (a % 4)) (c / 4 + 64 * (b % 4)) (d / 4 + 64 * (c % 4)) := by unfold pc_n; omega
  obtain ⟨b1, b2, b3⟩ := pc_d2 b hb (a % 4) (by omega)
  obtain ⟨c1, c2, c3⟩ := pc_d2 c hc (b % 4) (by omega)
  obtain ⟨d1, d2, d3⟩ := pc_d2 d hd (c % 4) (by omega)
  rw [e, show (858993459 : Nat) = pc_n 51 51 51 51 from rfl, pc_mask (by omega) b3 c3 d3, pc_mask (by omega) hb hc hd, b1, c1, d1]
  unfold pc_n pc_2
  omega
theorem pc_s3 {a b c d : Nat} (ha : a < 256) (hb : b < 256) (hc : c < 256) (hd : d < 256) : (pc_n (pc_2 (pc_1 a)) (pc_2 (pc_1 b)) (pc_2 (pc_1 c)) (pc_2 (pc_1 d)) + pc_n (pc_2 (pc_1 a)) (pc_2 (pc_1 b)) (pc_2 (pc_1 c)) (pc_2 (pc_1 d)) / 16) &&& 252645135 = pc_n (pc_p a) (pc_p b) (pc_p c) (pc_p d) := by
  have ga := (pc_d3 a ha 0 (by omega)).2.2.1
  have gb := (pc_d3 b hb 0 (by omega)).2.2.1
  have gc := (pc_d3 c hc 0 (by omega)).2.2.1
  obtain ⟨a1, a2, -⟩ := pc_d3 a ha 0 (by omega)
  obtain ⟨b1, b2, -⟩ := pc_d3 b hb (pc_2 (pc_1 a) % 16) ga
  obtain ⟨c1, c2, -⟩ := pc_d3 c hc (pc_2 (pc_1 b) % 16) gb
  obtain ⟨d1, d2, -⟩ := pc_d3 d hd (pc_2 (pc_1 c) % 16) gc
  have e : pc_n (pc_2 (pc_1 a)) (pc_2 (pc_1 b)) (pc_2 (pc_1 c)) (pc_2 (pc_1 d)) + pc_n (pc_2 (pc_1 a)) (pc_2 (pc_1 b)) (pc_2 (pc_1 c)) (pc_2 (pc_1 d)) / 16 =
      pc_n (pc_2 (pc_1 a) + pc_2 (pc_1 a) / 16 + 16 * 0) (pc_2 (pc_1 b) + pc_2 (pc_1 b) / 16 + 16 * (pc_2 (pc_1 a) % 16)) (pc_2 (pc_1 c) + pc_2 (pc_1 c) / 16 + 16 * (pc_2 (pc_1 b) % 16)) (pc_2 (pc_1 d) + pc_2 (pc_1 d) / 16 + 16 * (pc_2 (pc_1 c) % 16)) := by
    unfold pc_n
    generalize pc_2 (pc_1 a) = A at *
    generalize pc_2 (pc_1 b) = B at *
    generalize pc_2 (pc_1 c) = C at *
    generalize pc_2 (pc_1 d) = D at *
    omega
  rw [e, show (252645135 : Nat) = pc_n 15 15 15 15 from rfl, pc_mask (by omega) b2 c2 d2, a1, b1, c1, d1]
/-- the steps of Integer.bitCount on a number -/
def pc_y1 (X : Nat) : Nat := X - (X / 2 &&& 1431655765)
def pc_y2 (X : Nat) : Nat := (pc_y1 X &&& 858993459) + (pc_y1 X / 4 &&& 858993459)
def pc_y3 (X : Nat) : Nat := (pc_y2 X + pc_y2 X / 16) &&& 252645135
def pc_y4 (X : Nat) : Nat := pc_y3 X + pc_y3 X / 256
def pc_y5 (X : Nat) : Nat := pc_y4 X + pc_y4 X / 65536
theorem pc_all {X : Nat} (hX : X < 4294967296) : (X / 2 &&& 1431655765) ≤ X ∧ pc_y1 X < 4294967296 ∧ pc_y2 X < 4294967296 ∧ pc_y2 X + pc_y2 X / 16 < 4294967296 ∧ pc_y3 X < 4294967296 ∧ pc_y4 X < 4294967296 ∧ pc_y5 X < 4294967296 ∧ pc_y5 X % 64 = rk_c (fun i => X.testBit i) 32 := by
  obtain ⟨a, b, c, d, ha, hb, hc, hd, e⟩ : ∃ a b c d, a < 256 ∧ b < 256 ∧ c < 256 ∧ d < 256 ∧ X = pc_n a b c d := ⟨X / 16777216, X / 65536 % 256, X / 256 % 256, X % 256, by omega, by omega, by omega, by omega, by unfold pc_n; omega⟩
  have h1 : pc_y1 X = pc_n (pc_1 a) (pc_1 b) (pc_1 c) (pc_1 d) := by unfold pc_y1; rw [e]; exact pc_s1 ha hb hc hd
  obtain ⟨-, -, a3, a4, a5, a9⟩ := pc_d3 a ha 0 (by omega)
  obtain ⟨-, -, b3, b4, b5, b9⟩ := pc_d3 b hb 0 (by omega)
  obtain ⟨-, -, c3, c4, c5, c9⟩ := pc_d3 c hc 0 (by omega)
  obtain ⟨-, d2, d3, d4, d5, d9⟩ := pc_d3 d hd 0 (by omega)
  have h2 : pc_y2 X = pc_n (pc_2 (pc_1 a)) (pc_2 (pc_1 b)) (pc_2 (pc_1 c)) (pc_2 (pc_1 d)) := by unfold pc_y2; rw [h1]; exact pc_s2 a4 b4 c4 d4
  have h3 : pc_y3 X = pc_n (pc_p a) (pc_p b) (pc_p c) (pc_p d) := by unfold pc_y3; rw [h2]; exact pc_s3 ha hb hc hd
  have a2 := (pc_d2 (pc_1 a) a4 0 (by omega)).2.1
  have b2 := (pc_d2 (pc_1 b) b4 0 (by omega)).2.1
  have c2 := (pc_d2 (pc_1 c) c4 0 (by omega)).2.1
  have d6 := (pc_d2 (pc_1 d) d4 0 (by omega)).2.1
  have a7 := (pc_d3 a ha 0 (by omega)).2.1
  have hle : (X / 2 &&& 1431655765) ≤ X := by
    have : (X / 2 &&& 1431655765) ≤ X / 2 := Nat.and_le_left
    omega
  have hcnt : rk_c (fun i => X.testBit i) 32 = pc_p d + pc_p c + pc_p b + pc_p a := by
    have t1 : ∀ (u v i : Nat), v < 256 → (256 * u + v).testBit i = if i < 8 then v.testBit i else u.testBit (i - 8) := fun u v i hv => Nat.testBit_two_pow_mul_add u (i := 8) hv i
    have step : ∀ (u v n : Nat), v < 256 → rk_c (fun i => (256 * u + v).testBit i) (8 + n) = pc_p v + rk_c (fun i => u.testBit i) n := by
      intro u v n hv
      rw [rk_c_add]
      congr 1
      · exact rk_c_congr (fun j hj => by rw [t1 u v j hv, if_pos hj])
      · exact rk_c_congr (fun j hj => by rw [t1 u v (8 + j) hv, if_neg (by omega), Nat.add_sub_cancel_left])
    rw [e]
    unfold pc_n
    rw [show (32 : Nat) = 8 + 24 from rfl, step _ _ _ hd, show (24 : Nat) = 8 + 16 from rfl, step _ _ _ hc, show (16 : Nat) = 8 + 8 from rfl, step _ _ _ hb]
    show pc_p d + (pc_p c + (pc_p b + pc_p a)) = _
    omega
  refine ⟨hle, ?_, ?_, ?_, ?_, ?_, ?_, ?_⟩
  · rw [h1]; unfold pc_n; omega
  · rw [h2]; unfold pc_n; omega
  · rw [h2]; unfold pc_n; omega
  · rw [h3]; unfold pc_n; omega
  · unfold pc_y4; rw [h3]; unfold pc_n; omega
  · unfold pc_y5 pc_y4; rw [h3]; unfold pc_n; omega
  · rw [hcnt]
    unfold pc_y5 pc_y4
    rw [h3]
    unfold pc_n
    generalize pc_p a = A at *
    generalize pc_p b = B at *
    generalize pc_p c = C at *
    generalize pc_p d = D at *
    have e1 : (256 * (256 * (256 * A + B) + C) + D) / 256 = 65536 * A + 256 * B + C := by omega
    rw [e1]
    have e2 : (256 * (256 * (256 * A + B) + C) + D + (65536 * A + 256 * B + C)) / 65536 = 256 * A + A + B := by omega
    rw [e2]
    omega
theorem pc_bt (x : Int32) : rk_c (bt x) 32 = rk_c (fun i => x.toBitVec.toNat.testBit i) 32 := rfl
theorem pc_nI (x : Int32) : x = nI x.toBitVec.toNat := by
  apply Int32.toBitVec_inj.1
  show x.toBitVec = BitVec.ofNat 32 x.toBitVec.toNat
  simp
/-! bits of rows, as the class handles them -/
theorem rk_one1 : ∀ i, i < 31 → bt (nI 1) (i + 1) = false := by decide +kernel
theorem rk_bit (x : Int32) {b : Nat} (hb : b < 32) : ((x.toUInt32 >>> ((nI b).toUInt32 &&& Int32.toUInt32 31)).toInt32 &&& nI 1) = 0 ↔ bt x b = false := by
  have e := b_ushr b hb x 0
  rw [Nat.add_zero] at e
  rw [← e]
  generalize (x.toUInt32 >>> ((nI b).toUInt32 &&& Int32.toUInt32 31)).toInt32 = v
  have h2 : bt (nI 1) 0 = true := by decide
  constructor
  · intro h
    have h1 : bt (v &&& nI 1) 0 = false := by rw [h]; exact b_0 0
    rw [b_and, h2, Bool.and_true] at h1
    exact h1
  · intro h
    apply b_ext
    intro i hi
    rw [b_and, b_0]
    cases i with
    | zero => rw [h]; rfl
    | succ i => rw [rk_one1 i (by omega), Bool.and_false]
theorem rk_one : ∀ b, b < 32 → ∀ i, i < 32 → bt (nI 1 <<< (nI b &&& 31)) i = decide (i = b) := by decide +kernel
theorem rk_not (x : Int32) {i : Nat} (hi : i < 32) : bt (x ^^^ (-1)) i = !bt x i := by rw [b_xor, b_m1 i hi, Bool.xor_true]
theorem rk_put1 {r : Nat → Int32} {h : Nat → Bool} (H : rk_R r h) {a b : Nat} (ha : a < 32) (hb : b < 32) : rk_R (upd r a (r a ||| (nI 1 <<< (nI b &&& 31)))) (fun p => if p = 32 * a + b then true else h p) := by
  intro x hx y hy
  show _ = if 32 * x + y = 32 * a + b then true else h (32 * x + y)
  by_cases e : x = a
  · subst e
    rw [pk_us, b_or, rk_one b hb y hy, H x hx y hy]
    by_cases e2 : y = b
    · subst e2
      simp
    · rw [if_neg (by omega), decide_eq_false e2, Bool.or_false]
  · rw [pk_un e, if_neg (by omega), H x hx y hy]
theorem rk_put0 {r : Nat → Int32} {h : Nat → Bool} (H : rk_R r h) {a b : Nat} (ha : a < 32) (hb : b < 32) : rk_R (upd r a (r a &&& ((nI 1 <<< (nI b &&& 31)) ^^^ (-1)))) (fun p => if p = 32 * a + b then false else h p) := by
  intro x hx y hy
  show _ = if 32 * x + y = 32 * a + b then false else h (32 * x + y)
  by_cases e : x = a
  · subst e
    rw [pk_us, b_and, rk_not _ hy, rk_one b hb y hy, H x hx y hy]
    by_cases e2 : y = b
    · subst e2
      simp
    · rw [if_neg (by omega), decide_eq_false e2, Bool.not_false, Bool.and_true]
  · rw [pk_un e, if_neg (by omega), H x hx y hy]
theorem rk_diff {r w x : Nat → Int32} {f g : Nat → Bool} (Hf : rk_R w f) (Hg : rk_R x g) (h : ∀ a, a < 32 → r a = w a &&& (x a ^^^ (-1))) : rk_R r (fun p => f p && !g p) := by
  intro a ha b hb
  show _ = (f (32 * a + b) && !g (32 * a + b))
  rw [h a ha, b_and, rk_not _ hb, Hf a ha b hb, Hg a ha b hb]
theorem rk_copy {r w : Nat → Int32} {f : Nat → Bool} (Hf : rk_R w f) (h : ∀ a, a < 32 → r a = w a) : rk_R r f := by
  intro a ha b hb
  rw [h a ha, Hf a ha b hb]
theorem rk_upd_lt {f g : Nat → Int32} {i : Nat} (h : ∀ j, j < i → f j = g j) {x : Int32} (hx : x = g i) : ∀ j, j < i + 1 → upd f i x j = g j := by
  intro j hj
  by_cases e : j = i
  · subst e
    rw [pk_us, hx]
  · rw [pk_un e]
    exact h j (by omega)
/-! what the methods answer, in numbers -/
def rk_v (x : Int32) : Bool := decide (¬ x < 0) && decide (¬ nI 32 ≤ x)
theorem rk_v_neg {x : Int32} (h : x < 0) : rk_v x = false := by unfold rk_v; rw [decide_eq_false (fun z => z h)]; rfl
theorem rk_v_big {x : Int32} (h : nI 32 ≤ x) : rk_v x = false := by unfold rk_v; rw [decide_eq_false (p := ¬ nI 32 ≤ x) (fun z => z h), Bool.and_false]
theorem rk_v_ok {x : Int32} (h : ¬ x < 0) (h2 : ¬ nI 32 ≤ x) : rk_v x = true := by unfold rk_v; rw [decide_eq_true h, decide_eq_true h2]; rfl
theorem rk_v_t {x : Int32} (h : rk_v x = true) : ∃ a, a < 32 ∧ x = nI a := by
  rcases pk_ix x (n := 32) (by decide) with h1 | h1 | h1
  · rw [rk_v_neg h1] at h; cases h
  · rw [rk_v_big h1] at h; cases h
  · exact h1
theorem rk_v_nI {a : Nat} (h : a < 32) : rk_v (nI a) = true := rk_v_ok (nI_pos (by omega)) (nI_ge h (by decide))
def rk_came (h k : Nat → Bool) (z : Bool) (p : Nat) : Bool := (h p != k p) && (h p == z)
theorem rk_came_s {h k : Nat → Bool} {z : Bool} {p : Nat} (e : h p = k p) : rk_came h k z p = false := by unfold rk_came; rw [e]; cases k p <;> rfl
theorem rk_came_o {h k : Nat → Bool} {z : Bool} {p : Nat} (e : ¬ h p = z) : rk_came h k z p = false := by
  unfold rk_came
  cases h1 : h p <;> cases h2 : z <;> cases k p <;> first | rfl | (rw [h1, h2] at e; exact absurd rfl e)
theorem rk_came_t {h k : Nat → Bool} {z : Bool} {p : Nat} (n : ¬ h p = k p) (e : h p = z) : rk_came h k z p = true := by
  unfold rk_came
  rw [← e]
  cases h1 : h p <;> cases h2 : k p <;> first | rfl | (rw [h1, h2] at n; exact absurd rfl n)
def rk_sg : Bool → Int32
  | true => nI 1
  | false => -1
def rk_chM (g : Nat) (pl by_ : Nat → Int32) (x y : Int32) (z : Bool) (r : Int32) (u : Int32 × Nat × (Nat → Int32) × (Nat → Int32)) : Prop :=
  ((rk_v x && rk_v y) = false ∧ u = (nI 1, g, pl, by_) ∧ r = nI 0) ∨ ((rk_v x && rk_v y) = true ∧ g = 60 ∧ u = (nI 2, g, pl, by_) ∧ r = nI 0) ∨
  ∃ a b, a < 32 ∧ b < 32 ∧ x = nI a ∧ y = nI b ∧ g < 60 ∧ u = (nI 0, g + 1, upd pl g (nI (32 * a + b)), upd by_ g (rk_sg z)) ∧ r = nI (g + 1)
def rk_hoM (h : Nat → Bool) (x y r u : Int32) : Prop := ((rk_v x && rk_v y) = false ∧ r = zI false ∧ u = nI 1) ∨ ∃ a b, a < 32 ∧ b < 32 ∧ x = nI a ∧ y = nI b ∧ r = zI (h (32 * a + b)) ∧ u = nI 0
def rk_otM (f : Nat → Bool) (x r u : Int32) : Prop := (∃ p, p < 1024 ∧ f p = true ∧ x = nI (rk_c f p) ∧ r = nI p ∧ u = nI 0) ∨ ((∀ p, p < 1024 → f p = true → x ≠ nI (rk_c f p)) ∧ u = nI 1)
def rk_tiM (t : Nat → Int32) (x y r u : Int32) : Prop := ((rk_v x && rk_v y) = false ∧ u = nI 1) ∨ ∃ a b, a < 32 ∧ b < 32 ∧ x = nI a ∧ y = nI b ∧ r = t (32 * a + b) ∧ u = nI 0
def rk_apM (g : Nat) (t : Nat → Int32) (pp : Nat → Nat) (by_ : Nat → Int32) (h k : Nat → Bool) (r : Int32) (u : Int32 × Nat × (Nat → Int32) × (Nat → Int32) × (Nat → Bool) × (Nat → Bool)) : Prop :=
  ((∃ p, p < 1024 ∧ t p + rk_s pp by_ g p < 0) ∧ u.1 = nI 1 ∧ u.2.1 = g ∧ u.2.2.1 = t ∧ u.2.2.2.2.1 = h ∧ u.2.2.2.2.2 = k) ∨
  ((∀ p, p < 1024 → ¬ t p + rk_s pp by_ g p < 0) ∧ u.1 = nI 0 ∧ u.2.1 = 0 ∧ (∀ p, p < 1024 → u.2.2.1 p = t p + rk_s pp by_ g p) ∧ (∀ p, p < 1024 → u.2.2.2.2.1 p = rk_jv 32 (fun p => decide (0 < u.2.2.1 p)) p) ∧ (∀ p, p < 1024 → u.2.2.2.2.2 p = h p) ∧
    r = nI (rk_c (rk_came u.2.2.2.2.1 u.2.2.2.2.2 true) 1024) + nI (rk_c (rk_came u.2.2.2.2.1 u.2.2.2.2.2 false) 1024))
def rk_diM (t : Nat → Int32) (h : Nat → Bool) (x y r : Int32) (u : Int32 × (Nat → Int32)) : Prop :=
  ((rk_v x && rk_v y) = false ∧ u.1 = nI 1) ∨ (∃ a b, a < 32 ∧ b < 32 ∧ x = nI a ∧ y = nI b ∧ h (32 * a + b) = false ∧ u.1 = nI 2) ∨
  ∃ a b k, a < 32 ∧ b < 32 ∧ x = nI a ∧ y = nI b ∧ k < 32 ∧ rk_w (fun p => decide (0 < t p)) a k b = true ∧ (∀ j, j < k → rk_w (fun p => decide (0 < t p)) a j b = false) ∧ r = nI (k + 1) ∧ u.1 = nI 0
def rk_coN (t : Nat → Int32) (h k : Nat → Bool) (g : Nat) : Nat → Int32
  | 0 => nI (rk_c (fun p => decide (0 < t p)) 1024)
  | 1 => rk_t t 1024
  | 2 => nI (rk_c h 1024)
  | 3 => nI g
  | 4 => nI (rk_c (rk_came h k true) 1024)
  | 5 => nI (rk_c (rk_came h k false) 1024)
  | 6 => nI (rk_c (fun a => h (32 * a + a)) 32)
  | 7 => nI (rk_c (fun a => h (32 * a + a) && !rk_any (fun b => h (32 * a + b) && h (32 * b + a)) a) 32)
  | _ => -1
def rk_coF (t : Nat → Int32) (h k : Nat → Bool) (g : Nat) (x : Int32) : Int32 := if x < 0 then -1 else rk_coN t h k g x.toNatClampNeg
theorem rk_coF_in {t : Nat → Int32} {h k : Nat → Bool} {g j : Nat} (hj : j < 2 ^ 31) : rk_coF t h k g (nI j) = rk_coN t h k g j := by
  unfold rk_coF
  rw [if_neg (nI_pos hj), nI_clamp hj]
theorem rk_coF_out {t : Nat → Int32} {h k : Nat → Bool} {g : Nat} {x : Int32} (hx : x < 0 ∨ nI 8 ≤ x) : rk_coF t h k g x = -1 := by
  by_cases h0 : x < 0
  · unfold rk_coF
    rw [if_pos h0]
  · obtain ⟨j, hj, rfl⟩ := nI_of h0
    rw [rk_coF_in hj]
    have h8 : 8 ≤ j := by
      rcases hx with z | z
      · exact absurd z h0
      · exact (nI_leI (by decide) hj).mp z
    obtain ⟨i, rfl⟩ := Nat.exists_eq_add_of_le h8
    rw [Nat.add_comm]
    rfl
theorem rk_nz (b : Bool) : vp_nar .boolean (zI b) = zI b := by cases b <;> rfl
def rk_ub (f : Nat → Bool) (i : Nat) (b : Bool) (p : Nat) : Bool := if p = i then b else f p
theorem rk_updz (f : Nat → Bool) (i : Nat) (b : Bool) : upd (fun p => zI (f p)) i (zI b) = fun p => zI (rk_ub f i b p) := by
  funext p
  unfold rk_ub
  by_cases e : p = i
  · subst e
    rw [pk_us, if_pos rfl]
  · rw [pk_un e, if_neg e]
def rk_jb (v a b : Nat) (f : Nat → Bool) (p : Nat) : Bool := if p / 32 = a ∧ p % 32 < b then f p || f (32 * v + p % 32) else f p
theorem rk_jb_0 (v a : Nat) (f : Nat → Bool) (p : Nat) : rk_jb v a 0 f p = f p := if_neg (by omega)
theorem rk_jb_at {v a b : Nat} {f : Nat → Bool} (hb : b < 32) : rk_jb v a b f (32 * v + b) = f (32 * v + b) := if_neg (by omega)
theorem rk_jb_t {v a b : Nat} {f : Nat → Bool} (hb : b < 32) (h : f (32 * v + b) = true) (p : Nat) : (if p = 32 * a + b then true else rk_jb v a b f p) = rk_jb v a (b + 1) f p := by
  unfold rk_jb
  by_cases e : p = 32 * a + b
  · subst e
    rw [if_pos rfl, if_pos ⟨by omega, by omega⟩, show (32 * a + b) % 32 = b by omega, h, Bool.or_true]
  · rw [if_neg e]
    by_cases c : p / 32 = a ∧ p % 32 < b
    · rw [if_pos c, if_pos ⟨c.1, by omega⟩]
    · rw [if_neg c, if_neg (by omega)]
theorem rk_jb_f {v a b : Nat} {f : Nat → Bool} (hb : b < 32) (h : f (32 * v + b) = false) (p : Nat) : rk_jb v a b f p = rk_jb v a (b + 1) f p := by
  unfold rk_jb
  by_cases e : p = 32 * a + b
  · subst e
    rw [if_neg (by omega), if_pos ⟨by omega, by omega⟩, show (32 * a + b) % 32 = b by omega, h, Bool.or_false]
  · by_cases c : p / 32 = a ∧ p % 32 < b
    · rw [if_pos c, if_pos ⟨c.1, by omega⟩]
    · rw [if_neg c, if_neg (by omega)]
theorem rk_jb_32 {v a : Nat} {f : Nat → Bool} (h : f (32 * a + v) = true) (p : Nat) : rk_jb v a 32 f p = rk_j v a f p := by
  unfold rk_jb rk_j
  by_cases c : p / 32 = a
  · rw [if_pos ⟨c, by omega⟩, if_pos ⟨c, h⟩]
  · rw [if_neg (fun z => c z.1), if_neg (fun z => c z.1)]
theorem rk_j_no {v a : Nat} {f : Nat → Bool} (h : f (32 * a + v) = false) (p : Nat) : rk_j v a f p = f p := by
  unfold rk_j
  rw [if_neg (fun z => by rw [h] at z; cases z.2)]
theorem zI_le {b : Bool} : zI b ≤ 0 ↔ b = false := by cases b <;> decide
theorem rk_ups {f F G : Nat → Int32} {i : Nat} (h : ∀ p, p < 1024 → f p = if p < i then F p else G p) : ∀ p, p < 1024 → upd f i (F i) p = if p < i + 1 then F p else G p := by
  intro p hp
  by_cases e : p = i
  · subst e
    rw [pk_us, if_pos (by omega)]
  · rw [pk_un e, h p hp]
    by_cases c : p < i
    · rw [if_pos c, if_pos (by omega)]
    · rw [if_neg c, if_neg (by omega)]
theorem rk_ubs2 {f F G : Nat → Bool} {i : Nat} {x : Bool} (h : ∀ p, p < 1024 → f p = if p < i then F p else G p) (hx : x = F i) : ∀ p, p < 1024 → rk_ub f i x p = if p < i + 1 then F p else G p := by
  intro p hp
  unfold rk_ub
  by_cases e : p = i
  · subst e
    rw [if_pos rfl, if_pos (by omega), hx]
  · rw [if_neg e, h p hp]
    by_cases c : p < i
    · rw [if_pos c, if_pos (by omega)]
    · rw [if_neg c, if_neg (by omega)]
theorem rk_ubs {f F G : Nat → Bool} {i : Nat} (h : ∀ p, p < 1024 → f p = if p < i then F p else G p) : ∀ p, p < 1024 → rk_ub f i (F i) p = if p < i + 1 then F p else G p := rk_ubs2 h rfl
theorem rk_s_add {t nn by_ : Nat → Int32} {pp : Nat → Nat} {i : Nat} (h : ∀ p, p < 1024 → nn p = t p + rk_s pp by_ i p) (hp : pp i < 1024) : ∀ p, p < 1024 → upd nn (pp i) (nn (pp i) + by_ i) p = t p + (rk_s pp by_ i p + (if pp i = p then by_ i else 0)) := by
  intro p hp9
  by_cases e : p = pp i
  · subst e
    rw [pk_us, if_pos rfl, h _ hp, Int32.add_assoc]
  · rw [pk_un e, if_neg (fun z => e z.symm), h p hp9, Int32.add_zero]
/-! one round of the reference's distance, vertex by vertex -/
def rk_q (e : Nat → Bool) (a k c j : Nat) : Nat := if rk_d e a k j = 0 ∧ rk_any (fun v => decide (rk_d e a k v = k + 1) && e (32 * v + j)) c = true then k + 2 else rk_d e a k j
theorem rk_q_le (e : Nat → Bool) (a k c j : Nat) : rk_q e a k c j ≤ k + 2 := by
  have := rk_d_le e a k j
  unfold rk_q
  split <;> omega
theorem rk_q_0c {e : Nat → Bool} {a k j : Nat} : rk_q e a k 0 j = rk_d e a k j := if_neg (fun z => by cases z.2)
theorem rk_q_eq {e : Nat → Bool} {a k c j : Nat} : rk_q e a k c j = k + 1 ↔ rk_d e a k j = k + 1 := by
  unfold rk_q
  split
  · rename_i h
    exact ⟨fun z => by omega, fun z => by omega⟩
  · exact Iff.rfl
theorem rk_q_s {e : Nat → Bool} {a k c j : Nat} (h : (decide (rk_d e a k c = k + 1) && e (32 * c + j)) = false) : rk_q e a k (c + 1) j = rk_q e a k c j := by
  unfold rk_q
  rw [rk_any_s, h, Bool.or_false]
theorem rk_q_skip {e : Nat → Bool} {a k c j : Nat} (h : ¬ rk_d e a k c = k + 1) : rk_q e a k (c + 1) j = rk_q e a k c j := rk_q_s (by rw [decide_eq_false h]; rfl)
theorem rk_q_no {e : Nat → Bool} {a k c j : Nat} (h : e (32 * c + j) = false) : rk_q e a k (c + 1) j = rk_q e a k c j := rk_q_s (by rw [h, Bool.and_false])
theorem rk_q_old {e : Nat → Bool} {a k c j : Nat} (h : ¬ rk_q e a k c j = 0) : rk_q e a k (c + 1) j = rk_q e a k c j := by
  unfold rk_q at h ⊢
  by_cases h0 : rk_d e a k j = 0
  · by_cases h1 : rk_any (fun v => decide (rk_d e a k v = k + 1) && e (32 * v + j)) c = true
    · rw [if_pos (show rk_d e a k j = 0 ∧ rk_any (fun v => decide (rk_d e a k v = k + 1) && e (32 * v + j)) (c + 1) = true from ⟨h0, by rw [rk_any_s, h1]; rfl⟩), if_pos ⟨h0, h1⟩]
    · rw [if_neg (fun z => h1 z.2)] at h
      exact absurd h0 h
  · rw [if_neg (fun z => h0 z.1), if_neg (fun z => h0 z.1)]
theorem rk_q_new {e : Nat → Bool} {a k c j : Nat} (h : rk_q e a k c j = 0) (hc : rk_d e a k c = k + 1) (he : e (32 * c + j) = true) : rk_q e a k (c + 1) j = k + 2 := by
  have h0 : rk_d e a k j = 0 := by
    unfold rk_q at h
    split at h
    · omega
    · exact h
  unfold rk_q
  rw [if_pos ⟨h0, by rw [rk_any_s, decide_eq_true hc, he, Bool.and_true, Bool.or_true]⟩]
theorem rk_q_32 {e : Nat → Bool} {a k j : Nat} (hj : j < 32) : rk_q e a k 32 j = rk_d e a (k + 1) j := by
  unfold rk_q
  rw [rk_d_s]
  by_cases h0 : rk_d e a k j = 0
  · rw [rk_d_round hj h0]
  · rw [if_neg (fun z => h0 z.1), if_neg (fun z => h0 z.1)]
theorem rk_q_keep {v : Nat → Int32} {F G : Nat → Nat} {j : Nat} (h : ∀ i, i < 32 → v i = nI (if i < j then F i else G i)) (e : F j = G j) : ∀ i, i < 32 → v i = nI (if i < j + 1 then F i else G i) := by
  intro i hi
  rw [h i hi]
  by_cases c : i < j
  · rw [if_pos c, if_pos (by omega)]
  · by_cases d : i = j
    · subst d
      rw [if_neg c, if_pos (by omega), e]
    · rw [if_neg c, if_neg (by omega)]
theorem rk_q_put {v : Nat → Int32} {F G : Nat → Nat} {j : Nat} {x : Int32} (h : ∀ i, i < 32 → v i = nI (if i < j then F i else G i)) (e : x = nI (F j)) : ∀ i, i < 32 → upd v j x i = nI (if i < j + 1 then F i else G i) := by
  intro i hi
  by_cases d : i = j
  · subst d
    rw [pk_us, if_pos (by omega), e]
  · rw [pk_un d, h i hi]
    by_cases c : i < j
    · rw [if_pos c, if_pos (by omega)]
    · rw [if_neg c, if_neg (by omega)]
theorem rk_n0 {n : Nat} (hn : n < 2 ^ 31) (h : nI n = 0) : n = 0 := (nI_eq hn (by decide)).mp (h.trans nI_0.symm)
theorem ts_nf {x : Bool} (h : ¬ x = false) : x = true := by cases x; exact absurd rfl h; rfl
theorem rk_gt {a b : Nat} (ha : a < 2 ^ 31) (hb : b < 2 ^ 31) (h : ¬ nI a ≤ nI b) : b < a := Nat.not_le.mp (fun z => h ((nI_leI ha hb).mpr z))
theorem rk_ge {a b : Nat} (ha : a < 2 ^ 31) (hb : b < 2 ^ 31) (h : ¬ nI a < nI b) : b ≤ a := Nat.not_lt.mp (fun z => h ((nI_ltI ha hb).mpr z))
theorem rk_in_s (pp : Nat → Nat) (i p : Nat) : rk_in pp (i + 1) p = (rk_in pp i p || pp i == p) := rfl
theorem rk_in_self (pp : Nat → Nat) (i : Nat) : rk_in pp (i + 1) (pp i) = true := by rw [rk_in_s, beq_self_eq_true, Bool.or_true]
theorem rk_in_ne {pp : Nat → Nat} {i p : Nat} (h : ¬ p = pp i) : rk_in pp (i + 1) p = rk_in pp i p := by
  rw [rk_in_s, show (pp i == p) = false from beq_eq_false_iff_ne.mpr (fun z => h z.symm), Bool.or_false]
theorem rk_clr {x gs : Nat → Int32} {pp : Nat → Nat} {i : Nat} (h : ∀ p, p < 1024 → x p = if rk_in pp i p = true then 0 else gs p) : ∀ p, p < 1024 → upd x (pp i) (nI 0) p = if rk_in pp (i + 1) p = true then 0 else gs p := by
  intro p hp
  by_cases e : p = pp i
  · subst e
    rw [pk_us, if_pos (rk_in_self pp i)]
    rfl
  · rw [pk_un e, rk_in_ne e]
    exact h p hp
def rk_ag (pp : Nat → Nat) (t gs : Nat → Int32) (i : Nat) (u : (Nat → Int32) × (Nat → Int32) × (Nat → Int32)) : Prop :=
  (∀ p, p < 1024 → u.1 p = if rk_in pp i p = true then t p + gs p else t p) ∧ (∀ p, p < 1024 → u.2.1 p = if rk_in pp i p = true then 0 else gs p) ∧ rk_R u.2.2 (fun p => decide (0 < u.1 p))
theorem rk_ag_s {pp : Nat → Nat} {t gs x y z z9 : Nat → Int32} {i : Nat} (h : rk_ag pp t gs i (x, y, z)) (hp : pp i < 1024) (hz : rk_R z9 (fun p => if p = 32 * (pp i / 32) + pp i % 32 then decide (0 < upd x (pp i) (x (pp i) + y (pp i)) (pp i)) else decide (0 < x p))) : rk_ag pp t gs (i + 1) (upd x (pp i) (x (pp i) + y (pp i)), upd y (pp i) (nI 0), z9) := by
  obtain ⟨h1, h2, h3⟩ := h
  refine ⟨fun p hp9 => ?_, rk_clr h2, hz.to (fun p hp9 => ?_)⟩
  · show upd x (pp i) (x (pp i) + y (pp i)) p = _
    by_cases e : p = pp i
    · subst e
      rw [pk_us, if_pos (rk_in_self pp i), show x (pp i) = _ from h1 _ hp, show y (pp i) = _ from h2 _ hp]
      by_cases c : rk_in pp i (pp i) = true
      · rw [if_pos c, if_pos c, Int32.add_zero]
      · rw [if_neg c, if_neg c]
    · rw [pk_un e, rk_in_ne e]
      exact h1 p hp9
  · show (if p = 32 * (pp i / 32) + pp i % 32 then decide (0 < upd x (pp i) (x (pp i) + y (pp i)) (pp i)) else decide (0 < x p)) = decide (0 < upd x (pp i) (x (pp i) + y (pp i)) p)
    by_cases e : p = pp i
    · subst e
      rw [if_pos (by omega)]
    · rw [if_neg (by omega), pk_un e]
theorem rk_lo_eq {r : Nat → Int32} {t : Nat → Int32} {h k : Nat → Bool} {g : Nat} (hR : rk_R r h) : nI (rk_c (fun a => bt (r a) a) 32) = rk_coF t h k g (nI 6) := by
  rw [rk_coF_in (by decide)]
  show _ = nI (rk_c (fun a => h (32 * a + a)) 32)
  rw [rk_c_congr (fun j hj => hR j hj j hj)]
theorem rk_ci_eq {r : Nat → Int32} {t : Nat → Int32} {h k : Nat → Bool} {g : Nat} (hR : rk_R r h) : nI (rk_c (fun a => bt (r a) a && !rk_any (fun b => bt (r a) b && bt (r b) a) a) 32) = rk_coF t h k g (nI 7) := by
  rw [rk_coF_in (by decide)]
  show _ = nI (rk_c (fun a => h (32 * a + a) && !rk_any (fun b => h (32 * a + b) && h (32 * b + a)) a) 32)
  rw [rk_c_congr (fun j hj => ?_)]
  show (bt (r j) j && !rk_any (fun b => bt (r j) b && bt (r b) j) j) = _
  rw [hR j hj j hj, rk_any_congr (fun b hb => by rw [hR j hj b (by omega), hR b (by omega) j hj])]
end
section
theorem rk_psub {D : va_G} {cl : List vw_C} {ws wc : va_W} {H : Heap} {isC : List Nat} (hP : va_P D cl ws H) (hC : isC.map (fun i => ws[i]?) = wc.map some) : va_P D cl wc H := by
  intro k q hk
  have h1 : (isC.map (fun i => ws[i]?))[k]? = some (some q) := by rw [hC, List.getElem?_map, hk]; rfl
  rw [List.getElem?_map] at h1
  cases hi : isC[k]? with
  | none => rw [hi] at h1; cases h1
  | some i => rw [hi] at h1; exact hP i q (Option.some.inj h1)
/-! the method frame of this claim: worlds of cells at variable addresses, one list of words WT for all methods -/
def rk_pre (D : va_G) (TY : List (ClassId × FieldType)) (sz : Nat) (ws : va_W) (U : State) : Prop := U.heap.size = sz ∧ va_P D classes ws U.heap ∧ va_K D classes TY U ∧ va_D (fun _ => True) ws
def rk_at (D : va_G) (TY : List (ClassId × FieldType)) (A : Nat → Prop) (ws : va_W) (t : State) : Prop := va_P D classes ws t.heap ∧ va_K D classes TY t ∧ va_D A ws
theorem rk_blind {D : va_G} {TY : List (ClassId × FieldType)} {sz : Nat} {ws : va_W} {av : List Value} : FrameBlind (va_Pc av (rk_pre D TY sz ws)) := fun a U g mk q => by
  obtain ⟨q0, q1, qP, qK, qD⟩ := q
  exact ⟨q0, q1, qP, va_K.moved (u := U) (U := U.calling g mk a) (Vm.Alike.refl U.vm) qK, qD⟩
theorem rk_give {D : va_G} {TY : List (ClassId × FieldType)} {ws : va_W} {av : List Value} {s : State} {H : Heap} {A : Nat → Prop} (hP : va_P D classes ws H) (hK : va_K D classes TY s) (hD : va_D A ws) : ∀ U : State, U.heap = H → s.WarmedH U.vm → va_Pc av (rk_pre D TY H.size ws) av.toArray U := fun U hU hW =>
  ⟨rfl, by rw [hU], by rw [hU]; exact hP, va_K.moved hW.alike hK, hD.weaken (fun _ _ _ _ => trivial)⟩
section RKB
variable {l : Launch} {y : MethodName} {cc : ByteArray} {maxL : Nat} {ret : Option FieldType} {av : List Value} {D : va_G} {TY : List (ClassId × FieldType)} {sz : Nat} {ws : va_W} {rm : Room} {Qc : Array Value → State → Outcome → State → Prop} {mc ms : Nat}
/-- a contract out of the walk of the body -/
theorem rk_body (hy : plainName y.cls = true) (hlen : (lg_sl av).length ≤ maxL)
    (body : ∀ (p : Program) (e : Env) (s : State) (m : MethodId) (below : List Frame) (meth : Method) (c : Code), p.tables.exec = Jvm.exec → c.code = cc → c.maxLocals = maxL → meth.sig.returnType = ret → (∀ w ∈ WT, w.before av.toArray s = true) → s.vm.findClass y.cls = some m.cls → meth.locks = false → meth.name = y.name → s.heap.size = sz →
      va_P D classes ws s.heap → va_K D classes TY s → va_D (va_A ws sz) ws → (∀ q : Nat, s.heap.size ≤ q → va_A ws sz q) → va_S (va_A ws sz) s.heap s.heap [] → ∀ ls : Array Slot, lv_has ls maxL (lv_args 0 av) →
      W p l e rm s m av.toArray below meth c s.heap [] 0 0 (MQ below Qc av.toArray s mc ms (va_A ws sz)) (F0 m 0 ls [])) :
    Met l y (.code y cc maxL ret :: WT) rm (va_Pc av (rk_pre D TY sz ws)) Qc mc ms (va_A ws sz) := by
  refine Met.ofW (cc := cc) (maxL := maxL) (ret := ret) hy rfl ?_
  intro p e s m args below meth c s₁ B hml hv
  obtain ⟨rfl, hsz, hP, hK, hD0⟩ := hv
  have hts := atoms_spec (ws := .code y cc maxL ret :: WT) B.pre
  have hD := hD0.self (sz := sz)
  have hl := lv_entry av (n := maxL) hlen
  rw [lg_entry_eq]
  exact body p e s m below meth c B.exec B.bytes hml B.returns (fun w h => hts w (List.mem_cons_of_mem _ h)) (findClass_of_methodNamed B.named) B.notSynchronized (name_of_methodNamed B.named B.method).1 hsz hP hK hD (fun q h => Or.inr (by rw [← hsz]; exact h)) va_S.rf _ hl
end RKB
section RKW
variable {p : Program} {l : Launch} {e : Env} {R : Room} {s : State} {m : MethodId} {args : Array Value} {below : List Frame} {meth : Method} {c : Code} {H : Heap} {locs : List Loc} {cells slots : Nat} {Q : State → Prop}
variable {pc : Nat} {ls : Array Slot} {rest : List Value} {cc : ByteArray} {D : va_G} {TY : List (ClassId × FieldType)} {A : Nat → Prop}
/-- the number on top, by another name -/
theorem rk_top {x y : Int32} (h : x = y) (k : W p l e R s m args below meth c H locs cells slots Q (F0 m pc ls (.int y :: rest))) : W p l e R s m args below meth c H locs cells slots Q (F0 m pc ls (.int x :: rest)) := by
  subst h
  exact k
theorem rk_iret {S : Type} {post : Int32 → S → Prop} {wf : S → va_W} {v : Int32} {ws : va_W} (u : S) (hx : p.tables.exec = Jvm.exec) (hb : c.code = cc) (hr : meth.sig.returnType = some .int) (hlocks : meth.locks = false) (hp : post v u) (hu : wf u = ws) (hP : va_P D classes ws H) (hK : va_K D classes TY s) (hD : va_D A ws) (hS : va_S A s.heap H locs) (hdg : decode cc pc = .ok (.ireturn, 1)) :
    W p l e R s m args below meth c H locs cells slots (MQ below (va_Qi post (fun u t => rk_at D TY A (wf u) t) A) args s cells slots A) (F0 m pc ls [.int v]) := by
  subst hu
  exact W.iret (v := v) hx hb hr (fun t ht hW => ⟨⟨v, u, rfl, hp, by rw [ht]; exact hP, va_K.moved hW.alike hK, hD⟩, hS.F ht⟩) hS.2.2 hdg hlocks
theorem rk_zret {S : Type} {post : Int32 → S → Prop} {wf : S → va_W} {z : Bool} {ws : va_W} (u : S) (hx : p.tables.exec = Jvm.exec) (hb : c.code = cc) (hr : meth.sig.returnType = some .boolean) (hlocks : meth.locks = false) (hp : post (zI z) u) (hu : wf u = ws) (hP : va_P D classes ws H) (hK : va_K D classes TY s) (hD : va_D A ws) (hS : va_S A s.heap H locs) (hdg : decode cc pc = .ok (.ireturn, 1)) :
    W p l e R s m args below meth c H locs cells slots (MQ below (va_Qi post (fun u t => rk_at D TY A (wf u) t) A) args s cells slots A) (F0 m pc ls [.int (zI z)]) := by
  subst hu
  exact W.zret (v := zI z) hx hb hr (by cases z <;> rfl) (fun t ht hW => ⟨⟨zI z, u, rfl, hp, by rw [ht]; exact hP, va_K.moved hW.alike hK, hD⟩, hS.F ht⟩) hS.2.2 hdg hlocks
theorem rk_vret {S : Type} {post : S → Prop} {wf : S → va_W} {ws : va_W} (u : S) (hx : p.tables.exec = Jvm.exec) (hb : c.code = cc) (hr : meth.sig.returnType = none) (hlocks : meth.locks = false) (hp : post u) (hu : wf u = ws) (hP : va_P D classes ws H) (hK : va_K D classes TY s) (hD : va_D A ws) (hS : va_S A s.heap H locs) (hdg : decode cc pc = .ok (.return_, 1)) :
    W p l e R s m args below meth c H locs cells slots (MQ below (va_Qv post (fun u t => rk_at D TY A (wf u) t) A) args s cells slots A) (F0 m pc ls []) := by
  subst hu
  exact W.vret hx hb hr (fun t ht hW => ⟨⟨u, rfl, hp, by rw [ht]; exact hP, va_K.moved hW.alike hK, hD⟩, hS.F ht⟩) hS.2.2 hdg hlocks
/-! calls: the callee's cells cut out by places, what came back laid beside the rest -/
variable {own C : String} {index n maxL nL mc ms : Nat} {y : MethodName} {bytes : ByteArray} {ret : Option FieldType} {wsY : List Cond} {rm : Room} {wc wr ws : va_W} {b : Nat} {st0 : List Value} {A0 : Nat → Prop} {H0 : Heap}
theorem rk_backi {S : Type} {post : Int32 → S → Prop} {wf : S → va_W} {a : Array Value} (hr : va_Run p l e R s m args below meth c H locs cells slots mc ms (F0 m pc ls st0) rest (va_Qi post (fun u t => rk_at D TY (va_A wc H.size) (wf u) t) (va_A wc H.size) a) (va_A wc H.size))
    (hP : va_P D classes ws H) (hD : va_D A0 ws) (hS : va_S A0 H0 H locs) (hA : ∀ q : Nat, H0.size ≤ q → A0 q) (isC isR : List Nat) (hC : isC.map (fun i => ws[i]?) = wc.map some) (hR : isR.map (fun i => ws[i]?) = wr.map some) (hn : va_nd isR = true) (hdis : ∀ i ∈ isR, i ∉ isC)
    (kk : ∀ (r : Int32) (u : S) (H1 : Heap) (locs1 : List Loc), post r u → va_P D classes (wr ++ wf u) H1 → va_D A0 (wr ++ wf u) → va_S A0 H0 H1 locs1 → W p l e R s m args below meth c H1 locs1 (cells + mc) (slots + ms) Q (F0 m (pc + 3) ls (.int r :: rest))) :
    W p l e R s m args below meth c H locs cells slots Q (F0 m pc ls st0) := by
  have hFc := va_free (wc := wc) hD hS hA isC hC
  refine va_calli hr hS (fun q _ h => hFc q h) hFc (fun r u t H1 locs1 ht hvm hp hB hz1 hk1 hS1 => ?_)
  obtain ⟨hP1, hK1, hD1⟩ := hB
  rw [ht] at hP1
  obtain ⟨hP2, hD2⟩ := va_join hP hD isC isR hC hR hn hdis hk1 hFc hP1 hD1
  exact kk r u H1 locs1 hp hP2 hD2 hS1
theorem rk_backv {S : Type} {post : S → Prop} {wf : S → va_W} {a : Array Value} (hr : va_Run p l e R s m args below meth c H locs cells slots mc ms (F0 m pc ls st0) rest (va_Qv post (fun u t => rk_at D TY (va_A wc H.size) (wf u) t) (va_A wc H.size) a) (va_A wc H.size))
    (hP : va_P D classes ws H) (hD : va_D A0 ws) (hS : va_S A0 H0 H locs) (hA : ∀ q : Nat, H0.size ≤ q → A0 q) (isC isR : List Nat) (hC : isC.map (fun i => ws[i]?) = wc.map some) (hR : isR.map (fun i => ws[i]?) = wr.map some) (hn : va_nd isR = true) (hdis : ∀ i ∈ isR, i ∉ isC)
    (kk : ∀ (u : S) (H1 : Heap) (locs1 : List Loc), post u → va_P D classes (wr ++ wf u) H1 → va_D A0 (wr ++ wf u) → va_S A0 H0 H1 locs1 → W p l e R s m args below meth c H1 locs1 (cells + mc) (slots + ms) Q (F0 m (pc + 3) ls rest)) :
    W p l e R s m args below meth c H locs cells slots Q (F0 m pc ls st0) := by
  have hFc := va_free (wc := wc) hD hS hA isC hC
  refine va_callv hr hS (fun q _ h => hFc q h) hFc (fun u t H1 locs1 ht hvm hp hB hz1 hk1 hS1 => ?_)
  obtain ⟨hP1, hK1, hD1⟩ := hB
  rw [ht] at hP1
  obtain ⟨hP2, hD2⟩ := va_join hP hD isC isR hC hR hn hdis hk1 hFc hP1 hD1
  exact kk u H1 locs1 hp hP2 hD2 hS1
end RKW
/-! the words of a call, all out of WT -/
def rk_mV (own : String) (index : Nat) (C : String) (y : MethodName) (bytes : ByteArray) (maxL : Nat) (ret : Option FieldType) : Prop := Cond.methodLink own index y ∈ WT ∧ Cond.instanceMethod y ∈ WT ∧ Cond.selects C y y ∈ WT ∧ Cond.initialized C ∈ WT ∧ Cond.code y bytes maxL ret ∈ WT
def rk_mS (own : String) (index : Nat) (y : MethodName) (bytes : ByteArray) (maxL : Nat) (ret : Option FieldType) : Prop := Cond.methodLink own index y ∈ WT ∧ Cond.static y ∈ WT ∧ Cond.initialized y.cls ∈ WT ∧ Cond.code y bytes maxL ret ∈ WT
def rk_mI (own : String) (index : Nat) (y : MethodName) (bytes : ByteArray) (maxL : Nat) : Prop := Cond.methodLink own index y ∈ WT ∧ Cond.instanceMethod y ∈ WT ∧ Cond.initialized y.cls ∈ WT ∧ Cond.code y bytes maxL none ∈ WT
section RKC
variable {R : Room} {s : State} {args : Array Value} {own C : String} {index maxL : Nat} {y : MethodName} {bytes : ByteArray} {ret : Option FieldType} {rm : Room}
theorem rk_in_code {w x : Cond} (hx : x ∈ WT) (h : w ∈ x :: WT) : w ∈ WT := (List.mem_cons.mp h).elim (fun e => by rw [e]; exact hx) (fun h => h)
theorem rk_cwV (n : Nat) (ht : ∀ w ∈ WT, w.before args s = true) (h : rk_mV own index C y bytes maxL ret) (hd : y.cls = C ∧ y.cls ≠ "java/lang/invoke/MethodHandle" ∧ y.cls ≠ "java/lang/invoke/VarHandle" ∧ (parseMethodDescriptor y.desc).map (fun d => d.parameters.length) = some n) (hR : rm.frames + 1 ≤ R.frames ∧ 8 + (maxL + 11) + rm.locals ≤ R.locals) :
    CallW R s args own C index y bytes maxL ret (.code y bytes maxL ret :: WT) rm rm.cells rm.slots n := by
  obtain ⟨h1, h2, h3, h4, h5⟩ := h
  refine cwV n ht (fun w hw => rk_good w ?_) rfl rfl rfl hd hR
  unfold wsV at hw
  rcases List.mem_append.mp hw with h | h
  · simp only [List.mem_cons, List.not_mem_nil, or_false] at h
    rcases h with rfl | rfl | rfl | rfl
    · exact h1
    · exact h2
    · exact h3
    · exact h4
  · exact rk_in_code h5 h
theorem rk_cwS (n : Nat) (ht : ∀ w ∈ WT, w.before args s = true) (h : rk_mS own index y bytes maxL ret) (hd : y.cls ≠ "java/lang/invoke/MethodHandle" ∧ y.cls ≠ "java/lang/invoke/VarHandle" ∧ (parseMethodDescriptor y.desc).map (fun d => d.parameters.length) = some n) (hR : rm.frames + 1 ≤ R.frames ∧ 8 + (maxL + 11) + rm.locals ≤ R.locals) :
    CallB R s args own index y bytes maxL ret (.code y bytes maxL ret :: WT) rm rm.cells rm.slots n ∧ (Cond.static y).before args s = true := by
  obtain ⟨h1, h2, h3, h4⟩ := h
  refine va_cwS n ht (fun w hw => rk_good w ?_) rfl rfl rfl hd hR
  unfold va_wsS at hw
  rcases List.mem_append.mp hw with h | h
  · simp only [List.mem_cons, List.not_mem_nil, or_false] at h
    rcases h with rfl | rfl | rfl
    · exact h1
    · exact h2
    · exact h3
  · exact rk_in_code h4 h
theorem rk_cwI (n : Nat) (ht : ∀ w ∈ WT, w.before args s = true) (h : rk_mI own index y bytes maxL) (hy1 : y.name = "<init>") (hd : y.cls ≠ "java/lang/invoke/MethodHandle" ∧ y.cls ≠ "java/lang/invoke/VarHandle" ∧ (parseMethodDescriptor y.desc).map (fun d => d.parameters.length) = some n) (hR : rm.frames + 1 ≤ R.frames ∧ 8 + (maxL + 11) + rm.locals ≤ R.locals) :
    CallB R s args own index y bytes maxL none (.code y bytes maxL none :: WT) rm rm.cells rm.slots n ∧ y.name = "<init>" ∧ (Cond.instanceMethod y).before args s = true := by
  obtain ⟨h1, h2, h3, h4⟩ := h
  exact cwI n ht (fun w hw => rk_good w (rk_in_code h4 hw)) rfl rfl rfl (ht _ h3) (ht _ h1) (ht _ h2) hy1 hd hR
end RKC
theorem gc_P_has_7 : rk_mS R_P 15 y_P_hasBit b_P_hasBit 2 (some .boolean) := ⟨ml_P_15, st_P_hasBit, in_P, co_P_hasBit⟩
theorem gc_P_size_17 : rk_mS R_P 19 y_JI_bitCount b_JI_bitCount 1 (some .int) := ⟨ml_P_19, st_JI_bitCount, in_JI, co_JI_bitCount⟩
theorem gc_P_pairAt_22 : rk_mS R_P 19 y_JI_bitCount b_JI_bitCount 1 (some .int) := ⟨ml_P_19, st_JI_bitCount, in_JI, co_JI_bitCount⟩
theorem gc_P_pairAt_41 : rk_mS R_P 25 y_P_bitAt b_P_bitAt 4 (some .int) := ⟨ml_P_25, st_P_bitAt, in_P, co_P_bitAt⟩
-- no link gc_P_pairAt_44
theorem gc_P_joinWays_19 : rk_mV R_P 32 R_P y_P_has b_P_has 3 (some .boolean) := ⟨ml_P_32, im_P_has, se_P_has, in_P, co_P_has⟩
theorem gc_P_shortestWay_19 : rk_mS R_P 15 y_P_hasBit b_P_hasBit 2 (some .boolean) := ⟨ml_P_15, st_P_hasBit, in_P, co_P_hasBit⟩
theorem gc_P_shortestWay_31 : rk_mV R_P 35 R_P y_P_oneStepFrom b_P_oneStepFrom 4 (some .int) := ⟨ml_P_35, im_P_oneStepFrom, se_P_oneStepFrom, in_P, co_P_oneStepFrom⟩
theorem gc_P_loops_13 : rk_mV R_P 32 R_P y_P_has b_P_has 3 (some .boolean) := ⟨ml_P_32, im_P_has, se_P_has, in_P, co_P_has⟩
theorem gc_P_circles_13 : rk_mV R_P 32 R_P y_P_has b_P_has 3 (some .boolean) := ⟨ml_P_32, im_P_has, se_P_has, in_P, co_P_has⟩
theorem gc_P_circles_21 : rk_mV R_P 38 R_P y_P_hasLowerMate b_P_hasLowerMate 3 (some .boolean) := ⟨ml_P_38, im_P_hasLowerMate, se_P_hasLowerMate, in_P, co_P_hasLowerMate⟩
theorem gc_P_hasLowerMate_10 : rk_mV R_P 32 R_P y_P_has b_P_has 3 (some .boolean) := ⟨ml_P_32, im_P_has, se_P_has, in_P, co_P_has⟩
theorem gc_P_hasLowerMate_19 : rk_mV R_P 32 R_P y_P_has b_P_has 3 (some .boolean) := ⟨ml_P_32, im_P_has, se_P_has, in_P, co_P_has⟩
theorem gc_P_oneStepFrom_12 : rk_mS R_P 15 y_P_hasBit b_P_hasBit 2 (some .boolean) := ⟨ml_P_15, st_P_hasBit, in_P, co_P_hasBit⟩
theorem gc_P_bitAt_12 : rk_mS R_P 15 y_P_hasBit b_P_hasBit 2 (some .boolean) := ⟨ml_P_15, st_P_hasBit, in_P, co_P_hasBit⟩
theorem gc_K_init_40 : rk_mI R_K 25 y_P_init b_P_init 1 := ⟨ml_K_25, im_P_init, in_P, co_P_init⟩
theorem gc_K_init_51 : rk_mI R_K 25 y_P_init b_P_init 1 := ⟨ml_K_25, im_P_init, in_P, co_P_init⟩
theorem gc_K_init_62 : rk_mI R_K 25 y_P_init b_P_init 1 := ⟨ml_K_25, im_P_init, in_P, co_P_init⟩
theorem gc_K_init_73 : rk_mI R_K 25 y_P_init b_P_init 1 := ⟨ml_K_25, im_P_init, in_P, co_P_init⟩
theorem gc_K_init_84 : rk_mI R_K 25 y_P_init b_P_init 1 := ⟨ml_K_25, im_P_init, in_P, co_P_init⟩
theorem gc_K_change_2 : rk_mS R_K 42 y_K_requireVertices b_K_requireVertices 2 none := ⟨ml_K_42, st_K_requireVertices, in_K, co_K_requireVertices⟩
theorem gc_K_change_26 : rk_mS R_K 53 y_K_numberOf b_K_numberOf 2 (some .int) := ⟨ml_K_53, st_K_numberOf, in_K, co_K_numberOf⟩
theorem gc_K_forget_6 : rk_mV R_K 57 R_K y_K_clearGathered b_K_clearGathered 2 none := ⟨ml_K_57, im_K_clearGathered, se_K_clearGathered, in_K, co_K_clearGathered⟩
theorem gc_K_apply_1 : rk_mV R_K 60 R_K y_K_gatheredConflicts b_K_gatheredConflicts 3 (some .boolean) := ⟨ml_K_60, im_K_gatheredConflicts, se_K_gatheredConflicts, in_K, co_K_gatheredConflicts⟩
theorem gc_K_apply_18 : rk_mV R_K 69 R_K y_K_addGatheredToCounts b_K_addGatheredToCounts 3 none := ⟨ml_K_69, im_K_addGatheredToCounts, se_K_addGatheredToCounts, in_K, co_K_addGatheredToCounts⟩
theorem gc_K_apply_22 : rk_mV R_K 57 R_K y_K_clearGathered b_K_clearGathered 2 none := ⟨ml_K_57, im_K_clearGathered, se_K_clearGathered, in_K, co_K_clearGathered⟩
theorem gc_K_apply_26 : rk_mV R_K 72 R_K y_K_followEdges b_K_followEdges 1 none := ⟨ml_K_72, im_K_followEdges, se_K_followEdges, in_K, co_K_followEdges⟩
theorem gc_K_apply_33 : rk_mV R_K 75 R_P y_P_size b_P_size 3 (some .int) := ⟨ml_K_75, im_P_size, se_P_size, in_P, co_P_size⟩
theorem gc_K_apply_40 : rk_mV R_K 75 R_P y_P_size b_P_size 3 (some .int) := ⟨ml_K_75, im_P_size, se_P_size, in_P, co_P_size⟩
theorem gc_K_holds_2 : rk_mS R_K 42 y_K_requireVertices b_K_requireVertices 2 none := ⟨ml_K_42, st_K_requireVertices, in_K, co_K_requireVertices⟩
theorem gc_K_holds_11 : rk_mV R_K 79 R_P y_P_has b_P_has 3 (some .boolean) := ⟨ml_K_79, im_P_has, se_P_has, in_P, co_P_has⟩
theorem gc_K_came_5 : rk_mV R_K 83 R_P y_P_pairAt b_P_pairAt 5 (some .int) := ⟨ml_K_83, im_P_pairAt, se_P_pairAt, in_P, co_P_pairAt⟩
theorem gc_K_came_8 : rk_mS R_K 87 y_K_requirePair b_K_requirePair 1 (some .int) := ⟨ml_K_87, st_K_requirePair, in_K, co_K_requirePair⟩
theorem gc_K_went_5 : rk_mV R_K 83 R_P y_P_pairAt b_P_pairAt 5 (some .int) := ⟨ml_K_83, im_P_pairAt, se_P_pairAt, in_P, co_P_pairAt⟩
theorem gc_K_went_8 : rk_mS R_K 87 y_K_requirePair b_K_requirePair 1 (some .int) := ⟨ml_K_87, st_K_requirePair, in_K, co_K_requirePair⟩
theorem gc_K_distance_2 : rk_mS R_K 42 y_K_requireVertices b_K_requireVertices 2 none := ⟨ml_K_42, st_K_requireVertices, in_K, co_K_requireVertices⟩
theorem gc_K_distance_11 : rk_mV R_K 90 R_P y_P_shortestWay b_P_shortestWay 5 (some .int) := ⟨ml_K_90, im_P_shortestWay, se_P_shortestWay, in_P, co_P_shortestWay⟩
theorem gc_K_times_2 : rk_mS R_K 42 y_K_requireVertices b_K_requireVertices 2 none := ⟨ml_K_42, st_K_requireVertices, in_K, co_K_requireVertices⟩
theorem gc_K_times_11 : rk_mS R_K 53 y_K_numberOf b_K_numberOf 2 (some .int) := ⟨ml_K_53, st_K_numberOf, in_K, co_K_numberOf⟩
theorem gc_K_count_52 : rk_mV R_K 75 R_P y_P_size b_P_size 3 (some .int) := ⟨ml_K_75, im_P_size, se_P_size, in_P, co_P_size⟩
theorem gc_K_count_57 : rk_mV R_K 98 R_K y_K_sumOfCounts b_K_sumOfCounts 3 (some .int) := ⟨ml_K_98, im_K_sumOfCounts, se_K_sumOfCounts, in_K, co_K_sumOfCounts⟩
theorem gc_K_count_65 : rk_mV R_K 75 R_P y_P_size b_P_size 3 (some .int) := ⟨ml_K_75, im_P_size, se_P_size, in_P, co_P_size⟩
theorem gc_K_count_78 : rk_mV R_K 75 R_P y_P_size b_P_size 3 (some .int) := ⟨ml_K_75, im_P_size, se_P_size, in_P, co_P_size⟩
theorem gc_K_count_86 : rk_mV R_K 75 R_P y_P_size b_P_size 3 (some .int) := ⟨ml_K_75, im_P_size, se_P_size, in_P, co_P_size⟩
theorem gc_K_count_94 : rk_mV R_K 101 R_P y_P_loops b_P_loops 3 (some .int) := ⟨ml_K_101, im_P_loops, se_P_loops, in_P, co_P_loops⟩
theorem gc_K_count_102 : rk_mV R_K 104 R_P y_P_circles b_P_circles 3 (some .int) := ⟨ml_K_104, im_P_circles, se_P_circles, in_P, co_P_circles⟩
theorem gc_K_requireVertices_1 : rk_mS R_K 107 y_K_isVertex b_K_isVertex 1 (some .boolean) := ⟨ml_K_107, st_K_isVertex, in_K, co_K_isVertex⟩
theorem gc_K_requireVertices_8 : rk_mS R_K 107 y_K_isVertex b_K_isVertex 1 (some .boolean) := ⟨ml_K_107, st_K_isVertex, in_K, co_K_isVertex⟩
theorem gc_K_addGatheredToCounts_65 : rk_mV R_K 118 R_P y_P_put b_P_put 4 none := ⟨ml_K_118, im_P_put, se_P_put, in_P, co_P_put⟩
theorem gc_K_followEdges_8 : rk_mV R_K 122 R_P y_P_copyFrom b_P_copyFrom 3 none := ⟨ml_K_122, im_P_copyFrom, se_P_copyFrom, in_P, co_P_copyFrom⟩
theorem gc_K_followEdges_19 : rk_mV R_K 122 R_P y_P_copyFrom b_P_copyFrom 3 none := ⟨ml_K_122, im_P_copyFrom, se_P_copyFrom, in_P, co_P_copyFrom⟩
theorem gc_K_followEdges_26 : rk_mV R_K 126 R_P y_P_joinWays b_P_joinWays 3 none := ⟨ml_K_126, im_P_joinWays, se_P_joinWays, in_P, co_P_joinWays⟩
theorem gc_K_followEdges_41 : rk_mV R_K 129 R_P y_P_becomeDifference b_P_becomeDifference 4 none := ⟨ml_K_129, im_P_becomeDifference, se_P_becomeDifference, in_P, co_P_becomeDifference⟩
theorem gc_K_followEdges_56 : rk_mV R_K 129 R_P y_P_becomeDifference b_P_becomeDifference 4 none := ⟨ml_K_129, im_P_becomeDifference, se_P_becomeDifference, in_P, co_P_becomeDifference⟩
theorem gc_M_change_2 : rk_mS R_M 36 y_M_isVertex b_M_isVertex 1 (some .boolean) := ⟨ml_M_36, st_M_isVertex, in_M, co_M_isVertex⟩
theorem gc_M_change_9 : rk_mS R_M 36 y_M_isVertex b_M_isVertex 1 (some .boolean) := ⟨ml_M_36, st_M_isVertex, in_M, co_M_isVertex⟩
theorem gc_M_apply_257 : rk_mV R_M 43 R_M y_M_many b_M_many 4 (some .int) := ⟨ml_M_43, im_M_many, se_M_many, in_M, co_M_many⟩
theorem gc_M_apply_262 : rk_mV R_M 43 R_M y_M_many b_M_many 4 (some .int) := ⟨ml_M_43, im_M_many, se_M_many, in_M, co_M_many⟩
theorem gc_M_holds_2 : rk_mS R_M 36 y_M_isVertex b_M_isVertex 1 (some .boolean) := ⟨ml_M_36, st_M_isVertex, in_M, co_M_isVertex⟩
theorem gc_M_holds_9 : rk_mS R_M 36 y_M_isVertex b_M_isVertex 1 (some .boolean) := ⟨ml_M_36, st_M_isVertex, in_M, co_M_isVertex⟩
theorem gc_M_came_3 : rk_mV R_M 47 R_M y_M_other b_M_other 5 (some .int) := ⟨ml_M_47, im_M_other, se_M_other, in_M, co_M_other⟩
theorem gc_M_went_3 : rk_mV R_M 47 R_M y_M_other b_M_other 5 (some .int) := ⟨ml_M_47, im_M_other, se_M_other, in_M, co_M_other⟩
theorem gc_M_distance_2 : rk_mS R_M 36 y_M_isVertex b_M_isVertex 1 (some .boolean) := ⟨ml_M_36, st_M_isVertex, in_M, co_M_isVertex⟩
theorem gc_M_distance_9 : rk_mS R_M 36 y_M_isVertex b_M_isVertex 1 (some .boolean) := ⟨ml_M_36, st_M_isVertex, in_M, co_M_isVertex⟩
theorem gc_M_times_2 : rk_mS R_M 36 y_M_isVertex b_M_isVertex 1 (some .boolean) := ⟨ml_M_36, st_M_isVertex, in_M, co_M_isVertex⟩
theorem gc_M_times_9 : rk_mS R_M 36 y_M_isVertex b_M_isVertex 1 (some .boolean) := ⟨ml_M_36, st_M_isVertex, in_M, co_M_isVertex⟩
theorem gc_M_count_234 : rk_mV R_M 43 R_M y_M_many b_M_many 4 (some .int) := ⟨ml_M_43, im_M_many, se_M_many, in_M, co_M_many⟩
theorem gc_M_count_240 : rk_mV R_M 43 R_M y_M_many b_M_many 4 (some .int) := ⟨ml_M_43, im_M_many, se_M_many, in_M, co_M_many⟩
theorem gc_L_change_7 : rk_mV R_L 7 R_K y_K_change b_K_change 5 (some .int) := ⟨ml_L_7, im_K_change, se_K_change, in_K, co_K_change⟩
theorem gc_L_apply_3 : rk_mV R_L 17 R_K y_K_apply b_K_apply 1 (some .int) := ⟨ml_L_17, im_K_apply, se_K_apply, in_K, co_K_apply⟩
theorem gc_L_holds_5 : rk_mV R_L 23 R_K y_K_holds b_K_holds 3 (some .boolean) := ⟨ml_L_23, im_K_holds, se_K_holds, in_K, co_K_holds⟩
theorem gc_L_came_4 : rk_mV R_L 27 R_K y_K_came b_K_came 2 (some .int) := ⟨ml_L_27, im_K_came, se_K_came, in_K, co_K_came⟩
theorem gc_L_went_4 : rk_mV R_L 33 R_K y_K_went b_K_went 2 (some .int) := ⟨ml_L_33, im_K_went, se_K_went, in_K, co_K_went⟩
theorem gc_L_distance_5 : rk_mV R_L 36 R_K y_K_distance b_K_distance 4 (some .int) := ⟨ml_L_36, im_K_distance, se_K_distance, in_K, co_K_distance⟩
theorem gc_L_times_5 : rk_mV R_L 40 R_K y_K_times b_K_times 3 (some .int) := ⟨ml_L_40, im_K_times, se_K_times, in_K, co_K_times⟩
theorem gc_L_law_4 : rk_mI R_L 43 y_K_init b_K_init 1 := ⟨ml_L_43, im_K_init, in_K, co_K_init⟩
theorem gc_L_law_12 : rk_mI R_L 46 y_M_init b_M_init 1 := ⟨ml_L_46, im_M_init, in_M, co_M_init⟩
theorem gc_L_law_148 : rk_mV R_L 52 R_M y_M_change b_M_change 4 (some .int) := ⟨ml_L_52, im_M_change, se_M_change, in_M, co_M_change⟩
theorem gc_L_law_154 : rk_mV R_L 53 R_M y_M_thrown b_M_thrown 1 (some .int) := ⟨ml_L_53, im_M_thrown, se_M_thrown, in_M, co_M_thrown⟩
theorem gc_L_law_185 : rk_mV R_L 56 R_K y_K_forget b_K_forget 2 (some .int) := ⟨ml_L_56, im_K_forget, se_K_forget, in_K, co_K_forget⟩
theorem gc_L_law_189 : rk_mV R_L 59 R_M y_M_forget b_M_forget 2 (some .int) := ⟨ml_L_59, im_M_forget, se_M_forget, in_M, co_M_forget⟩
theorem gc_L_law_205 : rk_mV R_L 63 R_M y_M_apply b_M_apply 4 (some .int) := ⟨ml_L_63, im_M_apply, se_M_apply, in_M, co_M_apply⟩
theorem gc_L_law_211 : rk_mV R_L 53 R_M y_M_thrown b_M_thrown 1 (some .int) := ⟨ml_L_53, im_M_thrown, se_M_thrown, in_M, co_M_thrown⟩
theorem gc_L_law_273 : rk_mV R_L 67 R_M y_M_holds b_M_holds 3 (some .boolean) := ⟨ml_L_67, im_M_holds, se_M_holds, in_M, co_M_holds⟩
theorem gc_L_law_279 : rk_mV R_L 53 R_M y_M_thrown b_M_thrown 1 (some .int) := ⟨ml_L_53, im_M_thrown, se_M_thrown, in_M, co_M_thrown⟩
theorem gc_L_law_336 : rk_mV R_L 71 R_M y_M_came b_M_came 2 (some .int) := ⟨ml_L_71, im_M_came, se_M_came, in_M, co_M_came⟩
theorem gc_L_law_342 : rk_mV R_L 53 R_M y_M_thrown b_M_thrown 1 (some .int) := ⟨ml_L_53, im_M_thrown, se_M_thrown, in_M, co_M_thrown⟩
theorem gc_L_law_392 : rk_mV R_L 74 R_M y_M_went b_M_went 2 (some .int) := ⟨ml_L_74, im_M_went, se_M_went, in_M, co_M_went⟩
theorem gc_L_law_398 : rk_mV R_L 53 R_M y_M_thrown b_M_thrown 1 (some .int) := ⟨ml_L_53, im_M_thrown, se_M_thrown, in_M, co_M_thrown⟩
theorem gc_L_law_460 : rk_mV R_L 77 R_M y_M_distance b_M_distance 6 (some .int) := ⟨ml_L_77, im_M_distance, se_M_distance, in_M, co_M_distance⟩
theorem gc_L_law_466 : rk_mV R_L 53 R_M y_M_thrown b_M_thrown 1 (some .int) := ⟨ml_L_53, im_M_thrown, se_M_thrown, in_M, co_M_thrown⟩
theorem gc_L_law_528 : rk_mV R_L 80 R_M y_M_times b_M_times 3 (some .int) := ⟨ml_L_80, im_M_times, se_M_times, in_M, co_M_times⟩
theorem gc_L_law_534 : rk_mV R_L 53 R_M y_M_thrown b_M_thrown 1 (some .int) := ⟨ml_L_53, im_M_thrown, se_M_thrown, in_M, co_M_thrown⟩
theorem gc_L_law_571 : rk_mV R_L 81 R_K y_K_count b_K_count 2 (some .int) := ⟨ml_L_81, im_K_count, se_K_count, in_K, co_K_count⟩
theorem gc_L_law_581 : rk_mV R_L 84 R_M y_M_count b_M_count 10 (some .int) := ⟨ml_L_84, im_M_count, se_M_count, in_M, co_M_count⟩
end
section
theorem d_P_init_0 : decode b_P_init 0 = .ok (.aload_n 0, 1) := by decide +kernel
theorem d_P_init_1 : decode b_P_init 1 = .ok (.invokespecial 3, 3) := by decide +kernel
theorem d_P_init_4 : decode b_P_init 4 = .ok (.aload_n 0, 1) := by decide +kernel
theorem d_P_init_5 : decode b_P_init 5 = .ok (.bipush 32, 2) := by decide +kernel
theorem d_P_init_7 : decode b_P_init 7 = .ok (.newarray .int, 2) := by decide +kernel
theorem d_P_init_9 : decode b_P_init 9 = .ok (.putfield 9, 3) := by decide +kernel
theorem d_P_init_12 : decode b_P_init 12 = .ok (.return_, 1) := by decide +kernel
theorem d_P_has_0 : decode b_P_has 0 = .ok (.aload_n 0, 1) := by decide +kernel
theorem d_P_has_1 : decode b_P_has 1 = .ok (.getfield 9, 3) := by decide +kernel
theorem d_P_has_4 : decode b_P_has 4 = .ok (.iload_n 1, 1) := by decide +kernel
theorem d_P_has_5 : decode b_P_has 5 = .ok (.iaload, 1) := by decide +kernel
theorem d_P_has_6 : decode b_P_has 6 = .ok (.iload_n 2, 1) := by decide +kernel
theorem d_P_has_7 : decode b_P_has 7 = .ok (.invokestatic 15, 3) := by decide +kernel
theorem d_P_has_10 : decode b_P_has 10 = .ok (.ireturn, 1) := by decide +kernel
theorem d_P_put_0 : decode b_P_put 0 = .ok (.iload_n 3, 1) := by decide +kernel
theorem d_P_put_1 : decode b_P_put 1 = .ok (.ifCond .eq 18, 3) := by decide +kernel
theorem d_P_put_4 : decode b_P_put 4 = .ok (.aload_n 0, 1) := by decide +kernel
theorem d_P_put_5 : decode b_P_put 5 = .ok (.getfield 9, 3) := by decide +kernel
theorem d_P_put_8 : decode b_P_put 8 = .ok (.iload_n 1, 1) := by decide +kernel
theorem d_P_put_9 : decode b_P_put 9 = .ok (.dup2, 1) := by decide +kernel
theorem d_P_put_10 : decode b_P_put 10 = .ok (.iaload, 1) := by decide +kernel
theorem d_P_put_11 : decode b_P_put 11 = .ok (.iconst 1, 1) := by decide +kernel
theorem d_P_put_12 : decode b_P_put 12 = .ok (.iload_n 2, 1) := by decide +kernel
theorem d_P_put_13 : decode b_P_put 13 = .ok (.ishl, 1) := by decide +kernel
theorem d_P_put_14 : decode b_P_put 14 = .ok (.ior, 1) := by decide +kernel
theorem d_P_put_15 : decode b_P_put 15 = .ok (.iastore, 1) := by decide +kernel
theorem d_P_put_16 : decode b_P_put 16 = .ok (.goto 17, 3) := by decide +kernel
theorem d_P_put_19 : decode b_P_put 19 = .ok (.aload_n 0, 1) := by decide +kernel
theorem d_P_put_20 : decode b_P_put 20 = .ok (.getfield 9, 3) := by decide +kernel
theorem d_P_put_23 : decode b_P_put 23 = .ok (.iload_n 1, 1) := by decide +kernel
theorem d_P_put_24 : decode b_P_put 24 = .ok (.dup2, 1) := by decide +kernel
theorem d_P_put_25 : decode b_P_put 25 = .ok (.iaload, 1) := by decide +kernel
theorem d_P_put_26 : decode b_P_put 26 = .ok (.iconst 1, 1) := by decide +kernel
theorem d_P_put_27 : decode b_P_put 27 = .ok (.iload_n 2, 1) := by decide +kernel
theorem d_P_put_28 : decode b_P_put 28 = .ok (.ishl, 1) := by decide +kernel
theorem d_P_put_29 : decode b_P_put 29 = .ok (.iconst (-1), 1) := by decide +kernel
theorem d_P_put_30 : decode b_P_put 30 = .ok (.ixor, 1) := by decide +kernel
theorem d_P_put_31 : decode b_P_put 31 = .ok (.iand, 1) := by decide +kernel
theorem d_P_put_32 : decode b_P_put 32 = .ok (.iastore, 1) := by decide +kernel
theorem d_P_put_33 : decode b_P_put 33 = .ok (.return_, 1) := by decide +kernel
theorem d_P_copyFrom_0 : decode b_P_copyFrom 0 = .ok (.iconst 0, 1) := by decide +kernel
theorem d_P_copyFrom_1 : decode b_P_copyFrom 1 = .ok (.istore_n 2, 1) := by decide +kernel
theorem d_P_copyFrom_2 : decode b_P_copyFrom 2 = .ok (.iload_n 2, 1) := by decide +kernel
theorem d_P_copyFrom_3 : decode b_P_copyFrom 3 = .ok (.bipush 32, 2) := by decide +kernel
theorem d_P_copyFrom_5 : decode b_P_copyFrom 5 = .ok (.if_icmp .ge 21, 3) := by decide +kernel
theorem d_P_copyFrom_8 : decode b_P_copyFrom 8 = .ok (.aload_n 0, 1) := by decide +kernel
theorem d_P_copyFrom_9 : decode b_P_copyFrom 9 = .ok (.getfield 9, 3) := by decide +kernel
theorem d_P_copyFrom_12 : decode b_P_copyFrom 12 = .ok (.iload_n 2, 1) := by decide +kernel
theorem d_P_copyFrom_13 : decode b_P_copyFrom 13 = .ok (.aload_n 1, 1) := by decide +kernel
theorem d_P_copyFrom_14 : decode b_P_copyFrom 14 = .ok (.getfield 9, 3) := by decide +kernel
theorem d_P_copyFrom_17 : decode b_P_copyFrom 17 = .ok (.iload_n 2, 1) := by decide +kernel
theorem d_P_copyFrom_18 : decode b_P_copyFrom 18 = .ok (.iaload, 1) := by decide +kernel
theorem d_P_copyFrom_19 : decode b_P_copyFrom 19 = .ok (.iastore, 1) := by decide +kernel
theorem d_P_copyFrom_20 : decode b_P_copyFrom 20 = .ok (.iinc 2 1, 3) := by decide +kernel
theorem d_P_copyFrom_23 : decode b_P_copyFrom 23 = .ok (.goto (-21), 3) := by decide +kernel
theorem d_P_copyFrom_26 : decode b_P_copyFrom 26 = .ok (.return_, 1) := by decide +kernel
theorem d_P_becomeDifference_0 : decode b_P_becomeDifference 0 = .ok (.iconst 0, 1) := by decide +kernel
theorem d_P_becomeDifference_1 : decode b_P_becomeDifference 1 = .ok (.istore_n 3, 1) := by decide +kernel
theorem d_P_becomeDifference_2 : decode b_P_becomeDifference 2 = .ok (.iload_n 3, 1) := by decide +kernel
theorem d_P_becomeDifference_3 : decode b_P_becomeDifference 3 = .ok (.bipush 32, 2) := by decide +kernel
theorem d_P_becomeDifference_5 : decode b_P_becomeDifference 5 = .ok (.if_icmp .ge 30, 3) := by decide +kernel
theorem d_P_becomeDifference_8 : decode b_P_becomeDifference 8 = .ok (.aload_n 0, 1) := by decide +kernel
theorem d_P_becomeDifference_9 : decode b_P_becomeDifference 9 = .ok (.getfield 9, 3) := by decide +kernel
theorem d_P_becomeDifference_12 : decode b_P_becomeDifference 12 = .ok (.iload_n 3, 1) := by decide +kernel
theorem d_P_becomeDifference_13 : decode b_P_becomeDifference 13 = .ok (.aload_n 1, 1) := by decide +kernel
theorem d_P_becomeDifference_14 : decode b_P_becomeDifference 14 = .ok (.getfield 9, 3) := by decide +kernel
theorem d_P_becomeDifference_17 : decode b_P_becomeDifference 17 = .ok (.iload_n 3, 1) := by decide +kernel
theorem d_P_becomeDifference_18 : decode b_P_becomeDifference 18 = .ok (.iaload, 1) := by decide +kernel
theorem d_P_becomeDifference_19 : decode b_P_becomeDifference 19 = .ok (.aload_n 2, 1) := by decide +kernel
theorem d_P_becomeDifference_20 : decode b_P_becomeDifference 20 = .ok (.getfield 9, 3) := by decide +kernel
theorem d_P_becomeDifference_23 : decode b_P_becomeDifference 23 = .ok (.iload_n 3, 1) := by decide +kernel
theorem d_P_becomeDifference_24 : decode b_P_becomeDifference 24 = .ok (.iaload, 1) := by decide +kernel
theorem d_P_becomeDifference_25 : decode b_P_becomeDifference 25 = .ok (.iconst (-1), 1) := by decide +kernel
theorem d_P_becomeDifference_26 : decode b_P_becomeDifference 26 = .ok (.ixor, 1) := by decide +kernel
theorem d_P_becomeDifference_27 : decode b_P_becomeDifference 27 = .ok (.iand, 1) := by decide +kernel
theorem d_P_becomeDifference_28 : decode b_P_becomeDifference 28 = .ok (.iastore, 1) := by decide +kernel
theorem d_P_becomeDifference_29 : decode b_P_becomeDifference 29 = .ok (.iinc 3 1, 3) := by decide +kernel
theorem d_P_becomeDifference_32 : decode b_P_becomeDifference 32 = .ok (.goto (-30), 3) := by decide +kernel
theorem d_P_becomeDifference_35 : decode b_P_becomeDifference 35 = .ok (.return_, 1) := by decide +kernel
theorem d_P_size_0 : decode b_P_size 0 = .ok (.iconst 0, 1) := by decide +kernel
theorem d_P_size_1 : decode b_P_size 1 = .ok (.istore_n 1, 1) := by decide +kernel
theorem d_P_size_2 : decode b_P_size 2 = .ok (.iconst 0, 1) := by decide +kernel
theorem d_P_size_3 : decode b_P_size 3 = .ok (.istore_n 2, 1) := by decide +kernel
theorem d_P_size_4 : decode b_P_size 4 = .ok (.iload_n 2, 1) := by decide +kernel
theorem d_P_size_5 : decode b_P_size 5 = .ok (.bipush 32, 2) := by decide +kernel
theorem d_P_size_7 : decode b_P_size 7 = .ok (.if_icmp .ge 21, 3) := by decide +kernel
theorem d_P_size_10 : decode b_P_size 10 = .ok (.iload_n 1, 1) := by decide +kernel
theorem d_P_size_11 : decode b_P_size 11 = .ok (.aload_n 0, 1) := by decide +kernel
theorem d_P_size_12 : decode b_P_size 12 = .ok (.getfield 9, 3) := by decide +kernel
theorem d_P_size_15 : decode b_P_size 15 = .ok (.iload_n 2, 1) := by decide +kernel
theorem d_P_size_16 : decode b_P_size 16 = .ok (.iaload, 1) := by decide +kernel
theorem d_P_size_17 : decode b_P_size 17 = .ok (.invokestatic 19, 3) := by decide +kernel
theorem d_P_size_20 : decode b_P_size 20 = .ok (.iadd, 1) := by decide +kernel
theorem d_P_size_21 : decode b_P_size 21 = .ok (.istore_n 1, 1) := by decide +kernel
theorem d_P_size_22 : decode b_P_size 22 = .ok (.iinc 2 1, 3) := by decide +kernel
theorem d_P_size_25 : decode b_P_size 25 = .ok (.goto (-21), 3) := by decide +kernel
theorem d_P_size_28 : decode b_P_size 28 = .ok (.iload_n 1, 1) := by decide +kernel
theorem d_P_size_29 : decode b_P_size 29 = .ok (.ireturn, 1) := by decide +kernel
theorem d_P_pairAt_0 : decode b_P_pairAt 0 = .ok (.iload_n 1, 1) := by decide +kernel
theorem d_P_pairAt_1 : decode b_P_pairAt 1 = .ok (.ifCond .ge 5, 3) := by decide +kernel
theorem d_P_pairAt_4 : decode b_P_pairAt 4 = .ok (.iconst (-1), 1) := by decide +kernel
theorem d_P_pairAt_5 : decode b_P_pairAt 5 = .ok (.ireturn, 1) := by decide +kernel
theorem d_P_pairAt_6 : decode b_P_pairAt 6 = .ok (.iload_n 1, 1) := by decide +kernel
theorem d_P_pairAt_7 : decode b_P_pairAt 7 = .ok (.istore_n 2, 1) := by decide +kernel
theorem d_P_pairAt_8 : decode b_P_pairAt 8 = .ok (.iconst 0, 1) := by decide +kernel
theorem d_P_pairAt_9 : decode b_P_pairAt 9 = .ok (.istore_n 3, 1) := by decide +kernel
theorem d_P_pairAt_10 : decode b_P_pairAt 10 = .ok (.iload_n 3, 1) := by decide +kernel
theorem d_P_pairAt_11 : decode b_P_pairAt 11 = .ok (.bipush 32, 2) := by decide +kernel
theorem d_P_pairAt_13 : decode b_P_pairAt 13 = .ok (.if_icmp .ge 46, 3) := by decide +kernel
theorem d_P_pairAt_16 : decode b_P_pairAt 16 = .ok (.aload_n 0, 1) := by decide +kernel
theorem d_P_pairAt_17 : decode b_P_pairAt 17 = .ok (.getfield 9, 3) := by decide +kernel
theorem d_P_pairAt_20 : decode b_P_pairAt 20 = .ok (.iload_n 3, 1) := by decide +kernel
theorem d_P_pairAt_21 : decode b_P_pairAt 21 = .ok (.iaload, 1) := by decide +kernel
theorem d_P_pairAt_22 : decode b_P_pairAt 22 = .ok (.invokestatic 19, 3) := by decide +kernel
theorem d_P_pairAt_25 : decode b_P_pairAt 25 = .ok (.istore 4, 2) := by decide +kernel
theorem d_P_pairAt_27 : decode b_P_pairAt 27 = .ok (.iload_n 2, 1) := by decide +kernel
theorem d_P_pairAt_28 : decode b_P_pairAt 28 = .ok (.iload 4, 2) := by decide +kernel
theorem d_P_pairAt_30 : decode b_P_pairAt 30 = .ok (.if_icmp .ge 18, 3) := by decide +kernel
theorem d_P_pairAt_33 : decode b_P_pairAt 33 = .ok (.iload_n 3, 1) := by decide +kernel
theorem d_P_pairAt_34 : decode b_P_pairAt 34 = .ok (.aload_n 0, 1) := by decide +kernel
theorem d_P_pairAt_35 : decode b_P_pairAt 35 = .ok (.getfield 9, 3) := by decide +kernel
theorem d_P_pairAt_38 : decode b_P_pairAt 38 = .ok (.iload_n 3, 1) := by decide +kernel
theorem d_P_pairAt_39 : decode b_P_pairAt 39 = .ok (.iaload, 1) := by decide +kernel
theorem d_P_pairAt_40 : decode b_P_pairAt 40 = .ok (.iload_n 2, 1) := by decide +kernel
theorem d_P_pairAt_41 : decode b_P_pairAt 41 = .ok (.invokestatic 25, 3) := by decide +kernel
theorem d_P_pairAt_44 : decode b_P_pairAt 44 = .ok (.invokestatic 29, 3) := by decide +kernel
theorem d_P_pairAt_47 : decode b_P_pairAt 47 = .ok (.ireturn, 1) := by decide +kernel
theorem d_P_pairAt_48 : decode b_P_pairAt 48 = .ok (.iload_n 2, 1) := by decide +kernel
theorem d_P_pairAt_49 : decode b_P_pairAt 49 = .ok (.iload 4, 2) := by decide +kernel
theorem d_P_pairAt_51 : decode b_P_pairAt 51 = .ok (.isub, 1) := by decide +kernel
theorem d_P_pairAt_52 : decode b_P_pairAt 52 = .ok (.istore_n 2, 1) := by decide +kernel
theorem d_P_pairAt_53 : decode b_P_pairAt 53 = .ok (.iinc 3 1, 3) := by decide +kernel
theorem d_P_pairAt_56 : decode b_P_pairAt 56 = .ok (.goto (-46), 3) := by decide +kernel
theorem d_P_pairAt_59 : decode b_P_pairAt 59 = .ok (.iconst (-1), 1) := by decide +kernel
theorem d_P_pairAt_60 : decode b_P_pairAt 60 = .ok (.ireturn, 1) := by decide +kernel
theorem d_P_joinWays_0 : decode b_P_joinWays 0 = .ok (.iconst 0, 1) := by decide +kernel
theorem d_P_joinWays_1 : decode b_P_joinWays 1 = .ok (.istore_n 1, 1) := by decide +kernel
theorem d_P_joinWays_2 : decode b_P_joinWays 2 = .ok (.iload_n 1, 1) := by decide +kernel
theorem d_P_joinWays_3 : decode b_P_joinWays 3 = .ok (.bipush 32, 2) := by decide +kernel
theorem d_P_joinWays_5 : decode b_P_joinWays 5 = .ok (.if_icmp .ge 47, 3) := by decide +kernel
theorem d_P_joinWays_8 : decode b_P_joinWays 8 = .ok (.iconst 0, 1) := by decide +kernel
theorem d_P_joinWays_9 : decode b_P_joinWays 9 = .ok (.istore_n 2, 1) := by decide +kernel
theorem d_P_joinWays_10 : decode b_P_joinWays 10 = .ok (.iload_n 2, 1) := by decide +kernel
theorem d_P_joinWays_11 : decode b_P_joinWays 11 = .ok (.bipush 32, 2) := by decide +kernel
theorem d_P_joinWays_13 : decode b_P_joinWays 13 = .ok (.if_icmp .ge 33, 3) := by decide +kernel
theorem d_P_joinWays_16 : decode b_P_joinWays 16 = .ok (.aload_n 0, 1) := by decide +kernel
theorem d_P_joinWays_17 : decode b_P_joinWays 17 = .ok (.iload_n 2, 1) := by decide +kernel
theorem d_P_joinWays_18 : decode b_P_joinWays 18 = .ok (.iload_n 1, 1) := by decide +kernel
theorem d_P_joinWays_19 : decode b_P_joinWays 19 = .ok (.invokevirtual 32, 3) := by decide +kernel
theorem d_P_joinWays_22 : decode b_P_joinWays 22 = .ok (.ifCond .eq 18, 3) := by decide +kernel
theorem d_P_joinWays_25 : decode b_P_joinWays 25 = .ok (.aload_n 0, 1) := by decide +kernel
theorem d_P_joinWays_26 : decode b_P_joinWays 26 = .ok (.getfield 9, 3) := by decide +kernel
theorem d_P_joinWays_29 : decode b_P_joinWays 29 = .ok (.iload_n 2, 1) := by decide +kernel
theorem d_P_joinWays_30 : decode b_P_joinWays 30 = .ok (.dup2, 1) := by decide +kernel
theorem d_P_joinWays_31 : decode b_P_joinWays 31 = .ok (.iaload, 1) := by decide +kernel
theorem d_P_joinWays_32 : decode b_P_joinWays 32 = .ok (.aload_n 0, 1) := by decide +kernel
theorem d_P_joinWays_33 : decode b_P_joinWays 33 = .ok (.getfield 9, 3) := by decide +kernel
theorem d_P_joinWays_36 : decode b_P_joinWays 36 = .ok (.iload_n 1, 1) := by decide +kernel
theorem d_P_joinWays_37 : decode b_P_joinWays 37 = .ok (.iaload, 1) := by decide +kernel
theorem d_P_joinWays_38 : decode b_P_joinWays 38 = .ok (.ior, 1) := by decide +kernel
theorem d_P_joinWays_39 : decode b_P_joinWays 39 = .ok (.iastore, 1) := by decide +kernel
theorem d_P_joinWays_40 : decode b_P_joinWays 40 = .ok (.iinc 2 1, 3) := by decide +kernel
theorem d_P_joinWays_43 : decode b_P_joinWays 43 = .ok (.goto (-33), 3) := by decide +kernel
theorem d_P_joinWays_46 : decode b_P_joinWays 46 = .ok (.iinc 1 1, 3) := by decide +kernel
theorem d_P_joinWays_49 : decode b_P_joinWays 49 = .ok (.goto (-47), 3) := by decide +kernel
theorem d_P_joinWays_52 : decode b_P_joinWays 52 = .ok (.return_, 1) := by decide +kernel
theorem d_P_shortestWay_0 : decode b_P_shortestWay 0 = .ok (.aload_n 0, 1) := by decide +kernel
theorem d_P_shortestWay_1 : decode b_P_shortestWay 1 = .ok (.getfield 9, 3) := by decide +kernel
theorem d_P_shortestWay_4 : decode b_P_shortestWay 4 = .ok (.iload_n 1, 1) := by decide +kernel
theorem d_P_shortestWay_5 : decode b_P_shortestWay 5 = .ok (.iaload, 1) := by decide +kernel
theorem d_P_shortestWay_6 : decode b_P_shortestWay 6 = .ok (.istore_n 3, 1) := by decide +kernel
theorem d_P_shortestWay_7 : decode b_P_shortestWay 7 = .ok (.iconst 1, 1) := by decide +kernel
theorem d_P_shortestWay_8 : decode b_P_shortestWay 8 = .ok (.istore 4, 2) := by decide +kernel
theorem d_P_shortestWay_10 : decode b_P_shortestWay 10 = .ok (.iload 4, 2) := by decide +kernel
theorem d_P_shortestWay_12 : decode b_P_shortestWay 12 = .ok (.bipush 32, 2) := by decide +kernel
theorem d_P_shortestWay_14 : decode b_P_shortestWay 14 = .ok (.if_icmp .gt 28, 3) := by decide +kernel
theorem d_P_shortestWay_17 : decode b_P_shortestWay 17 = .ok (.iload_n 3, 1) := by decide +kernel
theorem d_P_shortestWay_18 : decode b_P_shortestWay 18 = .ok (.iload_n 2, 1) := by decide +kernel
theorem d_P_shortestWay_19 : decode b_P_shortestWay 19 = .ok (.invokestatic 15, 3) := by decide +kernel
theorem d_P_shortestWay_22 : decode b_P_shortestWay 22 = .ok (.ifCond .eq 6, 3) := by decide +kernel
theorem d_P_shortestWay_25 : decode b_P_shortestWay 25 = .ok (.iload 4, 2) := by decide +kernel
theorem d_P_shortestWay_27 : decode b_P_shortestWay 27 = .ok (.ireturn, 1) := by decide +kernel
theorem d_P_shortestWay_28 : decode b_P_shortestWay 28 = .ok (.iload_n 3, 1) := by decide +kernel
theorem d_P_shortestWay_29 : decode b_P_shortestWay 29 = .ok (.aload_n 0, 1) := by decide +kernel
theorem d_P_shortestWay_30 : decode b_P_shortestWay 30 = .ok (.iload_n 3, 1) := by decide +kernel
theorem d_P_shortestWay_31 : decode b_P_shortestWay 31 = .ok (.invokevirtual 35, 3) := by decide +kernel
theorem d_P_shortestWay_34 : decode b_P_shortestWay 34 = .ok (.ior, 1) := by decide +kernel
theorem d_P_shortestWay_35 : decode b_P_shortestWay 35 = .ok (.istore_n 3, 1) := by decide +kernel
theorem d_P_shortestWay_36 : decode b_P_shortestWay 36 = .ok (.iinc 4 1, 3) := by decide +kernel
theorem d_P_shortestWay_39 : decode b_P_shortestWay 39 = .ok (.goto (-29), 3) := by decide +kernel
theorem d_P_shortestWay_42 : decode b_P_shortestWay 42 = .ok (.iconst (-1), 1) := by decide +kernel
theorem d_P_shortestWay_43 : decode b_P_shortestWay 43 = .ok (.ireturn, 1) := by decide +kernel
theorem d_P_loops_0 : decode b_P_loops 0 = .ok (.iconst 0, 1) := by decide +kernel
theorem d_P_loops_1 : decode b_P_loops 1 = .ok (.istore_n 1, 1) := by decide +kernel
theorem d_P_loops_2 : decode b_P_loops 2 = .ok (.iconst 0, 1) := by decide +kernel
theorem d_P_loops_3 : decode b_P_loops 3 = .ok (.istore_n 2, 1) := by decide +kernel
theorem d_P_loops_4 : decode b_P_loops 4 = .ok (.iload_n 2, 1) := by decide +kernel
theorem d_P_loops_5 : decode b_P_loops 5 = .ok (.bipush 32, 2) := by decide +kernel
theorem d_P_loops_7 : decode b_P_loops 7 = .ok (.if_icmp .ge 21, 3) := by decide +kernel
theorem d_P_loops_10 : decode b_P_loops 10 = .ok (.aload_n 0, 1) := by decide +kernel
theorem d_P_loops_11 : decode b_P_loops 11 = .ok (.iload_n 2, 1) := by decide +kernel
theorem d_P_loops_12 : decode b_P_loops 12 = .ok (.iload_n 2, 1) := by decide +kernel
theorem d_P_loops_13 : decode b_P_loops 13 = .ok (.invokevirtual 32, 3) := by decide +kernel
theorem d_P_loops_16 : decode b_P_loops 16 = .ok (.ifCond .eq 6, 3) := by decide +kernel
theorem d_P_loops_19 : decode b_P_loops 19 = .ok (.iinc 1 1, 3) := by decide +kernel
theorem d_P_loops_22 : decode b_P_loops 22 = .ok (.iinc 2 1, 3) := by decide +kernel
theorem d_P_loops_25 : decode b_P_loops 25 = .ok (.goto (-21), 3) := by decide +kernel
theorem d_P_loops_28 : decode b_P_loops 28 = .ok (.iload_n 1, 1) := by decide +kernel
theorem d_P_loops_29 : decode b_P_loops 29 = .ok (.ireturn, 1) := by decide +kernel
theorem d_P_circles_0 : decode b_P_circles 0 = .ok (.iconst 0, 1) := by decide +kernel
theorem d_P_circles_1 : decode b_P_circles 1 = .ok (.istore_n 1, 1) := by decide +kernel
theorem d_P_circles_2 : decode b_P_circles 2 = .ok (.iconst 0, 1) := by decide +kernel
theorem d_P_circles_3 : decode b_P_circles 3 = .ok (.istore_n 2, 1) := by decide +kernel
theorem d_P_circles_4 : decode b_P_circles 4 = .ok (.iload_n 2, 1) := by decide +kernel
theorem d_P_circles_5 : decode b_P_circles 5 = .ok (.bipush 32, 2) := by decide +kernel
theorem d_P_circles_7 : decode b_P_circles 7 = .ok (.if_icmp .ge 29, 3) := by decide +kernel
theorem d_P_circles_10 : decode b_P_circles 10 = .ok (.aload_n 0, 1) := by decide +kernel
theorem d_P_circles_11 : decode b_P_circles 11 = .ok (.iload_n 2, 1) := by decide +kernel
theorem d_P_circles_12 : decode b_P_circles 12 = .ok (.iload_n 2, 1) := by decide +kernel
theorem d_P_circles_13 : decode b_P_circles 13 = .ok (.invokevirtual 32, 3) := by decide +kernel
theorem d_P_circles_16 : decode b_P_circles 16 = .ok (.ifCond .eq 14, 3) := by decide +kernel
theorem d_P_circles_19 : decode b_P_circles 19 = .ok (.aload_n 0, 1) := by decide +kernel
theorem d_P_circles_20 : decode b_P_circles 20 = .ok (.iload_n 2, 1) := by decide +kernel
theorem d_P_circles_21 : decode b_P_circles 21 = .ok (.invokevirtual 38, 3) := by decide +kernel
theorem d_P_circles_24 : decode b_P_circles 24 = .ok (.ifCond .ne 6, 3) := by decide +kernel
theorem d_P_circles_27 : decode b_P_circles 27 = .ok (.iinc 1 1, 3) := by decide +kernel
theorem d_P_circles_30 : decode b_P_circles 30 = .ok (.iinc 2 1, 3) := by decide +kernel
theorem d_P_circles_33 : decode b_P_circles 33 = .ok (.goto (-29), 3) := by decide +kernel
theorem d_P_circles_36 : decode b_P_circles 36 = .ok (.iload_n 1, 1) := by decide +kernel
theorem d_P_circles_37 : decode b_P_circles 37 = .ok (.ireturn, 1) := by decide +kernel
theorem d_P_hasLowerMate_0 : decode b_P_hasLowerMate 0 = .ok (.iconst 0, 1) := by decide +kernel
theorem d_P_hasLowerMate_1 : decode b_P_hasLowerMate 1 = .ok (.istore_n 2, 1) := by decide +kernel
theorem d_P_hasLowerMate_2 : decode b_P_hasLowerMate 2 = .ok (.iload_n 2, 1) := by decide +kernel
theorem d_P_hasLowerMate_3 : decode b_P_hasLowerMate 3 = .ok (.iload_n 1, 1) := by decide +kernel
theorem d_P_hasLowerMate_4 : decode b_P_hasLowerMate 4 = .ok (.if_icmp .ge 29, 3) := by decide +kernel
theorem d_P_hasLowerMate_7 : decode b_P_hasLowerMate 7 = .ok (.aload_n 0, 1) := by decide +kernel
theorem d_P_hasLowerMate_8 : decode b_P_hasLowerMate 8 = .ok (.iload_n 1, 1) := by decide +kernel
theorem d_P_hasLowerMate_9 : decode b_P_hasLowerMate 9 = .ok (.iload_n 2, 1) := by decide +kernel
theorem d_P_hasLowerMate_10 : decode b_P_hasLowerMate 10 = .ok (.invokevirtual 32, 3) := by decide +kernel
theorem d_P_hasLowerMate_13 : decode b_P_hasLowerMate 13 = .ok (.ifCond .eq 14, 3) := by decide +kernel
theorem d_P_hasLowerMate_16 : decode b_P_hasLowerMate 16 = .ok (.aload_n 0, 1) := by decide +kernel
theorem d_P_hasLowerMate_17 : decode b_P_hasLowerMate 17 = .ok (.iload_n 2, 1) := by decide +kernel
theorem d_P_hasLowerMate_18 : decode b_P_hasLowerMate 18 = .ok (.iload_n 1, 1) := by decide +kernel
theorem d_P_hasLowerMate_19 : decode b_P_hasLowerMate 19 = .ok (.invokevirtual 32, 3) := by decide +kernel
theorem d_P_hasLowerMate_22 : decode b_P_hasLowerMate 22 = .ok (.ifCond .eq 5, 3) := by decide +kernel
theorem d_P_hasLowerMate_25 : decode b_P_hasLowerMate 25 = .ok (.iconst 1, 1) := by decide +kernel
theorem d_P_hasLowerMate_26 : decode b_P_hasLowerMate 26 = .ok (.ireturn, 1) := by decide +kernel
theorem d_P_hasLowerMate_27 : decode b_P_hasLowerMate 27 = .ok (.iinc 2 1, 3) := by decide +kernel
theorem d_P_hasLowerMate_30 : decode b_P_hasLowerMate 30 = .ok (.goto (-28), 3) := by decide +kernel
theorem d_P_hasLowerMate_33 : decode b_P_hasLowerMate 33 = .ok (.iconst 0, 1) := by decide +kernel
theorem d_P_hasLowerMate_34 : decode b_P_hasLowerMate 34 = .ok (.ireturn, 1) := by decide +kernel
theorem d_P_oneStepFrom_0 : decode b_P_oneStepFrom 0 = .ok (.iconst 0, 1) := by decide +kernel
theorem d_P_oneStepFrom_1 : decode b_P_oneStepFrom 1 = .ok (.istore_n 2, 1) := by decide +kernel
theorem d_P_oneStepFrom_2 : decode b_P_oneStepFrom 2 = .ok (.iconst 0, 1) := by decide +kernel
theorem d_P_oneStepFrom_3 : decode b_P_oneStepFrom 3 = .ok (.istore_n 3, 1) := by decide +kernel
theorem d_P_oneStepFrom_4 : decode b_P_oneStepFrom 4 = .ok (.iload_n 3, 1) := by decide +kernel
theorem d_P_oneStepFrom_5 : decode b_P_oneStepFrom 5 = .ok (.bipush 32, 2) := by decide +kernel
theorem d_P_oneStepFrom_7 : decode b_P_oneStepFrom 7 = .ok (.if_icmp .ge 26, 3) := by decide +kernel
theorem d_P_oneStepFrom_10 : decode b_P_oneStepFrom 10 = .ok (.iload_n 1, 1) := by decide +kernel
theorem d_P_oneStepFrom_11 : decode b_P_oneStepFrom 11 = .ok (.iload_n 3, 1) := by decide +kernel
theorem d_P_oneStepFrom_12 : decode b_P_oneStepFrom 12 = .ok (.invokestatic 15, 3) := by decide +kernel
theorem d_P_oneStepFrom_15 : decode b_P_oneStepFrom 15 = .ok (.ifCond .eq 12, 3) := by decide +kernel
theorem d_P_oneStepFrom_18 : decode b_P_oneStepFrom 18 = .ok (.iload_n 2, 1) := by decide +kernel
theorem d_P_oneStepFrom_19 : decode b_P_oneStepFrom 19 = .ok (.aload_n 0, 1) := by decide +kernel
theorem d_P_oneStepFrom_20 : decode b_P_oneStepFrom 20 = .ok (.getfield 9, 3) := by decide +kernel
theorem d_P_oneStepFrom_23 : decode b_P_oneStepFrom 23 = .ok (.iload_n 3, 1) := by decide +kernel
theorem d_P_oneStepFrom_24 : decode b_P_oneStepFrom 24 = .ok (.iaload, 1) := by decide +kernel
theorem d_P_oneStepFrom_25 : decode b_P_oneStepFrom 25 = .ok (.ior, 1) := by decide +kernel
theorem d_P_oneStepFrom_26 : decode b_P_oneStepFrom 26 = .ok (.istore_n 2, 1) := by decide +kernel
theorem d_P_oneStepFrom_27 : decode b_P_oneStepFrom 27 = .ok (.iinc 3 1, 3) := by decide +kernel
theorem d_P_oneStepFrom_30 : decode b_P_oneStepFrom 30 = .ok (.goto (-26), 3) := by decide +kernel
theorem d_P_oneStepFrom_33 : decode b_P_oneStepFrom 33 = .ok (.iload_n 2, 1) := by decide +kernel
theorem d_P_oneStepFrom_34 : decode b_P_oneStepFrom 34 = .ok (.ireturn, 1) := by decide +kernel
theorem d_P_hasBit_0 : decode b_P_hasBit 0 = .ok (.iload_n 0, 1) := by decide +kernel
theorem d_P_hasBit_1 : decode b_P_hasBit 1 = .ok (.iload_n 1, 1) := by decide +kernel
theorem d_P_hasBit_2 : decode b_P_hasBit 2 = .ok (.iushr, 1) := by decide +kernel
theorem d_P_hasBit_3 : decode b_P_hasBit 3 = .ok (.iconst 1, 1) := by decide +kernel
theorem d_P_hasBit_4 : decode b_P_hasBit 4 = .ok (.iand, 1) := by decide +kernel
theorem d_P_hasBit_5 : decode b_P_hasBit 5 = .ok (.ifCond .eq 7, 3) := by decide +kernel
theorem d_P_hasBit_8 : decode b_P_hasBit 8 = .ok (.iconst 1, 1) := by decide +kernel
theorem d_P_hasBit_9 : decode b_P_hasBit 9 = .ok (.goto 4, 3) := by decide +kernel
theorem d_P_hasBit_12 : decode b_P_hasBit 12 = .ok (.iconst 0, 1) := by decide +kernel
theorem d_P_hasBit_13 : decode b_P_hasBit 13 = .ok (.ireturn, 1) := by decide +kernel
theorem d_P_bitAt_0 : decode b_P_bitAt 0 = .ok (.iload_n 1, 1) := by decide +kernel
theorem d_P_bitAt_1 : decode b_P_bitAt 1 = .ok (.istore_n 2, 1) := by decide +kernel
theorem d_P_bitAt_2 : decode b_P_bitAt 2 = .ok (.iconst 0, 1) := by decide +kernel
theorem d_P_bitAt_3 : decode b_P_bitAt 3 = .ok (.istore_n 3, 1) := by decide +kernel
theorem d_P_bitAt_4 : decode b_P_bitAt 4 = .ok (.iload_n 3, 1) := by decide +kernel
theorem d_P_bitAt_5 : decode b_P_bitAt 5 = .ok (.bipush 32, 2) := by decide +kernel
theorem d_P_bitAt_7 : decode b_P_bitAt 7 = .ok (.if_icmp .ge 26, 3) := by decide +kernel
theorem d_P_bitAt_10 : decode b_P_bitAt 10 = .ok (.iload_n 0, 1) := by decide +kernel
theorem d_P_bitAt_11 : decode b_P_bitAt 11 = .ok (.iload_n 3, 1) := by decide +kernel
theorem d_P_bitAt_12 : decode b_P_bitAt 12 = .ok (.invokestatic 15, 3) := by decide +kernel
theorem d_P_bitAt_15 : decode b_P_bitAt 15 = .ok (.ifCond .eq 12, 3) := by decide +kernel
theorem d_P_bitAt_18 : decode b_P_bitAt 18 = .ok (.iload_n 2, 1) := by decide +kernel
theorem d_P_bitAt_19 : decode b_P_bitAt 19 = .ok (.ifCond .ne 5, 3) := by decide +kernel
theorem d_P_bitAt_22 : decode b_P_bitAt 22 = .ok (.iload_n 3, 1) := by decide +kernel
theorem d_P_bitAt_23 : decode b_P_bitAt 23 = .ok (.ireturn, 1) := by decide +kernel
theorem d_P_bitAt_24 : decode b_P_bitAt 24 = .ok (.iinc 2 (-1), 3) := by decide +kernel
theorem d_P_bitAt_27 : decode b_P_bitAt 27 = .ok (.iinc 3 1, 3) := by decide +kernel
theorem d_P_bitAt_30 : decode b_P_bitAt 30 = .ok (.goto (-26), 3) := by decide +kernel
theorem d_P_bitAt_33 : decode b_P_bitAt 33 = .ok (.iconst (-1), 1) := by decide +kernel
theorem d_P_bitAt_34 : decode b_P_bitAt 34 = .ok (.ireturn, 1) := by decide +kernel
theorem d_JI_bitCount_0 : decode b_JI_bitCount 0 = .ok (.iload_n 0, 1) := by decide +kernel
theorem d_JI_bitCount_1 : decode b_JI_bitCount 1 = .ok (.iload_n 0, 1) := by decide +kernel
theorem d_JI_bitCount_2 : decode b_JI_bitCount 2 = .ok (.iconst 1, 1) := by decide +kernel
theorem d_JI_bitCount_3 : decode b_JI_bitCount 3 = .ok (.iushr, 1) := by decide +kernel
theorem d_JI_bitCount_4 : decode b_JI_bitCount 4 = .ok (.ldc_w 265, 3) := by decide +kernel
theorem d_JI_bitCount_7 : decode b_JI_bitCount 7 = .ok (.iand, 1) := by decide +kernel
theorem d_JI_bitCount_8 : decode b_JI_bitCount 8 = .ok (.isub, 1) := by decide +kernel
theorem d_JI_bitCount_9 : decode b_JI_bitCount 9 = .ok (.istore_n 0, 1) := by decide +kernel
theorem d_JI_bitCount_10 : decode b_JI_bitCount 10 = .ok (.iload_n 0, 1) := by decide +kernel
theorem d_JI_bitCount_11 : decode b_JI_bitCount 11 = .ok (.ldc_w 266, 3) := by decide +kernel
theorem d_JI_bitCount_14 : decode b_JI_bitCount 14 = .ok (.iand, 1) := by decide +kernel
theorem d_JI_bitCount_15 : decode b_JI_bitCount 15 = .ok (.iload_n 0, 1) := by decide +kernel
theorem d_JI_bitCount_16 : decode b_JI_bitCount 16 = .ok (.iconst 2, 1) := by decide +kernel
theorem d_JI_bitCount_17 : decode b_JI_bitCount 17 = .ok (.iushr, 1) := by decide +kernel
theorem d_JI_bitCount_18 : decode b_JI_bitCount 18 = .ok (.ldc_w 266, 3) := by decide +kernel
theorem d_JI_bitCount_21 : decode b_JI_bitCount 21 = .ok (.iand, 1) := by decide +kernel
theorem d_JI_bitCount_22 : decode b_JI_bitCount 22 = .ok (.iadd, 1) := by decide +kernel
theorem d_JI_bitCount_23 : decode b_JI_bitCount 23 = .ok (.istore_n 0, 1) := by decide +kernel
theorem d_JI_bitCount_24 : decode b_JI_bitCount 24 = .ok (.iload_n 0, 1) := by decide +kernel
theorem d_JI_bitCount_25 : decode b_JI_bitCount 25 = .ok (.iload_n 0, 1) := by decide +kernel
theorem d_JI_bitCount_26 : decode b_JI_bitCount 26 = .ok (.iconst 4, 1) := by decide +kernel
theorem d_JI_bitCount_27 : decode b_JI_bitCount 27 = .ok (.iushr, 1) := by decide +kernel
theorem d_JI_bitCount_28 : decode b_JI_bitCount 28 = .ok (.iadd, 1) := by decide +kernel
theorem d_JI_bitCount_29 : decode b_JI_bitCount 29 = .ok (.ldc_w 267, 3) := by decide +kernel
theorem d_JI_bitCount_32 : decode b_JI_bitCount 32 = .ok (.iand, 1) := by decide +kernel
theorem d_JI_bitCount_33 : decode b_JI_bitCount 33 = .ok (.istore_n 0, 1) := by decide +kernel
theorem d_JI_bitCount_34 : decode b_JI_bitCount 34 = .ok (.iload_n 0, 1) := by decide +kernel
theorem d_JI_bitCount_35 : decode b_JI_bitCount 35 = .ok (.iload_n 0, 1) := by decide +kernel
theorem d_JI_bitCount_36 : decode b_JI_bitCount 36 = .ok (.bipush 8, 2) := by decide +kernel
theorem d_JI_bitCount_38 : decode b_JI_bitCount 38 = .ok (.iushr, 1) := by decide +kernel
theorem d_JI_bitCount_39 : decode b_JI_bitCount 39 = .ok (.iadd, 1) := by decide +kernel
theorem d_JI_bitCount_40 : decode b_JI_bitCount 40 = .ok (.istore_n 0, 1) := by decide +kernel
theorem d_JI_bitCount_41 : decode b_JI_bitCount 41 = .ok (.iload_n 0, 1) := by decide +kernel
theorem d_JI_bitCount_42 : decode b_JI_bitCount 42 = .ok (.iload_n 0, 1) := by decide +kernel
theorem d_JI_bitCount_43 : decode b_JI_bitCount 43 = .ok (.bipush 16, 2) := by decide +kernel
theorem d_JI_bitCount_45 : decode b_JI_bitCount 45 = .ok (.iushr, 1) := by decide +kernel
theorem d_JI_bitCount_46 : decode b_JI_bitCount 46 = .ok (.iadd, 1) := by decide +kernel
theorem d_JI_bitCount_47 : decode b_JI_bitCount 47 = .ok (.istore_n 0, 1) := by decide +kernel
theorem d_JI_bitCount_48 : decode b_JI_bitCount 48 = .ok (.iload_n 0, 1) := by decide +kernel
theorem d_JI_bitCount_49 : decode b_JI_bitCount 49 = .ok (.bipush 63, 2) := by decide +kernel
theorem d_JI_bitCount_51 : decode b_JI_bitCount 51 = .ok (.iand, 1) := by decide +kernel
theorem d_JI_bitCount_52 : decode b_JI_bitCount 52 = .ok (.ireturn, 1) := by decide +kernel
end
section
set_option maxHeartbeats 4000000 in
set_option maxRecDepth 100000 in
theorem c_JI_bitCountN (l : Launch) (dC : Nat → ClassId) (dI : Nat → Nat → Nat) (cI cZ cJ : ClassId) (sz : Nat) (X : Nat) (hX : X < 4294967296) : Met l y_JI_bitCount (.code y_JI_bitCount b_JI_bitCount 1 (some .int) :: WT) { frames := 0, cells := 0, slots := 0, locals := 0 } (va_Pc [.int (nI X)] (rk_pre (dC, dI) [(cI, .int), (cZ, .boolean), (cJ, .long)] sz [])) (va_Qi (fun (r : Int32) (u : Unit) => r = nI (rk_c (fun i => X.testBit i) 32)) (fun _ s9 => rk_at (dC, dI) [(cI, .int), (cZ, .boolean), (cJ, .long)] (va_A [] sz) [] s9) (va_A [] sz)) 0 0 (va_A [] sz) := by
  refine rk_body (by decide) (Nat.le_of_ble_eq_true rfl) ?_
  intro p e s m below meth c hx hb hml hr htw hown hlocks hin hsz hP hK hD hA hS ls hl
  have hown : s.vm.findClass R_JI = some m.cls := hown
  have hl : lv_has ls 1 [(0, .int (nI X))] := hl
  obtain ⟨g0, g1, g2, g3, g4, g5, g6, g7⟩ := pc_all hX
  refine lv_iload_n hx hb d_JI_bitCount_0 rfl (lv_at hl 0 rfl) ?_
  refine lv_iload_n hx hb d_JI_bitCount_1 rfl (lv_at hl 0 rfl) ?_
  refine lv_iconst (v := nI 1) hx hb d_JI_bitCount_2 (by decide) ?_
  refine lv_iushr (v := ((nI X).toUInt32 >>> ((nI 1).toUInt32 &&& Int32.toUInt32 31)).toInt32) hx hb d_JI_bitCount_3 rfl ?_
  refine rk_top (y := nI (X / 2)) (pk_ushrN hX (nI 1) 1 (by decide)) ?_
  refine lv_ldcw (v := 1431655765) hx hb hown (htw _ k_JI_265) d_JI_bitCount_4 ?_
  refine rk_top (y := nI 1431655765) rfl ?_
  refine lv_iand hx hb d_JI_bitCount_7 ?_
  refine rk_top (y := nI (X / 2 &&& 1431655765)) (nx_and _ _) ?_
  refine lv_isub hx hb d_JI_bitCount_8 ?_
  refine rk_top (y := nI (pc_y1 X)) (pk_sub g0) ?_
  refine lv_istore_n (lv' := [(0, .int (nI (pc_y1 X)))]) hx hb d_JI_bitCount_9 rfl hl (by decide) rfl (fun ls hl => ?_)
  refine lv_iload_n hx hb d_JI_bitCount_10 rfl (lv_at hl 0 rfl) ?_
  refine lv_ldcw (v := 858993459) hx hb hown (htw _ k_JI_266) d_JI_bitCount_11 ?_
  refine rk_top (y := nI 858993459) rfl ?_
  refine lv_iand hx hb d_JI_bitCount_14 ?_
  refine rk_top (y := nI (pc_y1 X &&& 858993459)) (nx_and _ _) ?_
  refine lv_iload_n hx hb d_JI_bitCount_15 rfl (lv_at hl 0 rfl) ?_
  refine lv_iconst (v := nI 2) hx hb d_JI_bitCount_16 (by decide) ?_
  refine lv_iushr (v := ((nI (pc_y1 X)).toUInt32 >>> ((nI 2).toUInt32 &&& Int32.toUInt32 31)).toInt32) hx hb d_JI_bitCount_17 rfl ?_
  refine rk_top (y := nI (pc_y1 X / 4)) (pk_ushrN g1 (nI 2) 2 (by decide)) ?_
  refine lv_ldcw (v := 858993459) hx hb hown (htw _ k_JI_266) d_JI_bitCount_18 ?_
  refine rk_top (y := nI 858993459) rfl ?_
  refine lv_iand hx hb d_JI_bitCount_21 ?_
  refine rk_top (y := nI (pc_y1 X / 4 &&& 858993459)) (nx_and _ _) ?_
  refine lv_iadd hx hb d_JI_bitCount_22 ?_
  refine rk_top (y := nI (pc_y2 X)) (nI_add _ _) ?_
  refine lv_istore_n (lv' := [(0, .int (nI (pc_y2 X)))]) hx hb d_JI_bitCount_23 rfl hl (by decide) rfl (fun ls hl => ?_)
  refine lv_iload_n hx hb d_JI_bitCount_24 rfl (lv_at hl 0 rfl) ?_
  refine lv_iload_n hx hb d_JI_bitCount_25 rfl (lv_at hl 0 rfl) ?_
  refine lv_iconst (v := nI 4) hx hb d_JI_bitCount_26 (by decide) ?_
  refine lv_iushr (v := ((nI (pc_y2 X)).toUInt32 >>> ((nI 4).toUInt32 &&& Int32.toUInt32 31)).toInt32) hx hb d_JI_bitCount_27 rfl ?_
  refine rk_top (y := nI (pc_y2 X / 16)) (pk_ushrN g2 (nI 4) 4 (by decide)) ?_
  refine lv_iadd hx hb d_JI_bitCount_28 ?_
  refine rk_top (y := nI (pc_y2 X + pc_y2 X / 16)) (nI_add _ _) ?_
  refine lv_ldcw (v := 252645135) hx hb hown (htw _ k_JI_267) d_JI_bitCount_29 ?_
  refine rk_top (y := nI 252645135) rfl ?_
  refine lv_iand hx hb d_JI_bitCount_32 ?_
  refine rk_top (y := nI (pc_y3 X)) (nx_and _ _) ?_
  refine lv_istore_n (lv' := [(0, .int (nI (pc_y3 X)))]) hx hb d_JI_bitCount_33 rfl hl (by decide) rfl (fun ls hl => ?_)
  refine lv_iload_n hx hb d_JI_bitCount_34 rfl (lv_at hl 0 rfl) ?_
  refine lv_iload_n hx hb d_JI_bitCount_35 rfl (lv_at hl 0 rfl) ?_
  refine lv_bipush (v := nI 8) hx hb d_JI_bitCount_36 (by decide) ?_
  refine lv_iushr (v := ((nI (pc_y3 X)).toUInt32 >>> ((nI 8).toUInt32 &&& Int32.toUInt32 31)).toInt32) hx hb d_JI_bitCount_38 rfl ?_
  refine rk_top (y := nI (pc_y3 X / 256)) (pk_ushrN g4 (nI 8) 8 (by decide)) ?_
  refine lv_iadd hx hb d_JI_bitCount_39 ?_
  refine rk_top (y := nI (pc_y4 X)) (nI_add _ _) ?_
  refine lv_istore_n (lv' := [(0, .int (nI (pc_y4 X)))]) hx hb d_JI_bitCount_40 rfl hl (by decide) rfl (fun ls hl => ?_)
  refine lv_iload_n hx hb d_JI_bitCount_41 rfl (lv_at hl 0 rfl) ?_
  refine lv_iload_n hx hb d_JI_bitCount_42 rfl (lv_at hl 0 rfl) ?_
  refine lv_bipush (v := nI 16) hx hb d_JI_bitCount_43 (by decide) ?_
  refine lv_iushr (v := ((nI (pc_y4 X)).toUInt32 >>> ((nI 16).toUInt32 &&& Int32.toUInt32 31)).toInt32) hx hb d_JI_bitCount_45 rfl ?_
  refine rk_top (y := nI (pc_y4 X / 65536)) (pk_ushrN g5 (nI 16) 16 (by decide)) ?_
  refine lv_iadd hx hb d_JI_bitCount_46 ?_
  refine rk_top (y := nI (pc_y5 X)) (nI_add _ _) ?_
  refine lv_istore_n (lv' := [(0, .int (nI (pc_y5 X)))]) hx hb d_JI_bitCount_47 rfl hl (by decide) rfl (fun ls hl => ?_)
  refine lv_iload_n hx hb d_JI_bitCount_48 rfl (lv_at hl 0 rfl) ?_
  refine lv_bipush (v := nI 63) hx hb d_JI_bitCount_49 (by decide) ?_
  refine lv_iand hx hb d_JI_bitCount_51 ?_
  refine rk_top (y := nI (rk_c (fun i => X.testBit i) 32)) (by rw [pk_andN g6 (m := nI 63) 6 (by decide)]; exact congrArg nI g7) ?_
  exact rk_iret (()) hx hb hr hlocks (rfl) rfl hP hK hD hS d_JI_bitCount_52
theorem c_JI_bitCount (l : Launch) (dC : Nat → ClassId) (dI : Nat → Nat → Nat) (cI cZ cJ : ClassId) (sz : Nat) (x : Int32) : Met l y_JI_bitCount (.code y_JI_bitCount b_JI_bitCount 1 (some .int) :: WT) { frames := 0, cells := 0, slots := 0, locals := 0 } (va_Pc [.int x] (rk_pre (dC, dI) [(cI, .int), (cZ, .boolean), (cJ, .long)] sz [])) (va_Qi (fun (r : Int32) (u : Unit) => r = nI (rk_c (bt x) 32)) (fun _ t => rk_at (dC, dI) [(cI, .int), (cZ, .boolean), (cJ, .long)] (va_A [] sz) [] t) (va_A [] sz)) 0 0 (va_A [] sz) := by
  have h := c_JI_bitCountN l dC dI cI cZ cJ sz x.toBitVec.toNat x.toBitVec.isLt
  rw [← pc_nI x] at h
  exact h
set_option maxHeartbeats 4000000 in
set_option maxRecDepth 100000 in
theorem c_P_hasBit (l : Launch) (dC : Nat → ClassId) (dI : Nat → Nat → Nat) (cI cZ cJ : ClassId) (sz : Nat) (x : Int32) (b : Nat) (hb32 : b < 32) : Met l y_P_hasBit (.code y_P_hasBit b_P_hasBit 2 (some .boolean) :: WT) { frames := 0, cells := 0, slots := 0, locals := 0 } (va_Pc [.int x, .int (nI b)] (rk_pre (dC, dI) [(cI, .int), (cZ, .boolean), (cJ, .long)] sz [])) (va_Qi (fun (r : Int32) (u : Unit) => r = zI (bt x b)) (fun _ s9 => rk_at (dC, dI) [(cI, .int), (cZ, .boolean), (cJ, .long)] (va_A [] sz) [] s9) (va_A [] sz)) 0 0 (va_A [] sz) := by
  refine rk_body (by decide) (Nat.le_of_ble_eq_true rfl) ?_
  intro p e s m below meth c hx hb hml hr htw hown hlocks hin hsz hP hK hD hA hS ls hl
  have hown : s.vm.findClass R_P = some m.cls := hown
  have hl : lv_has ls 2 [(0, .int x), (1, .int (nI b))] := hl
  refine lv_iload_n hx hb d_P_hasBit_0 rfl (lv_at hl 0 rfl) ?_
  refine lv_iload_n hx hb d_P_hasBit_1 rfl (lv_at hl 1 rfl) ?_
  refine lv_iushr (v := ((x).toUInt32 >>> ((nI b).toUInt32 &&& Int32.toUInt32 31)).toInt32) hx hb d_P_hasBit_2 rfl ?_
  refine lv_iconst (v := nI 1) hx hb d_P_hasBit_3 (by decide) ?_
  refine lv_iand hx hb d_P_hasBit_4 ?_
  refine lv_if_eq (tgt := 12) hx hb d_P_hasBit_5 (by decide) (fun hc => ?_) (fun hc => ?_)
  · have hc := (rk_bit x hb32).mp hc
    refine lv_iconst (v := nI 0) hx hb d_P_hasBit_12 (by decide) ?_
    refine rk_top (y := zI (bt x b)) (by rw [hc]; rfl) ?_
    exact rk_zret (()) hx hb hr hlocks (rfl) rfl hP hK hD hS d_P_hasBit_13
  · have hc := ts_nf (fun z => hc ((rk_bit x hb32).mpr z))
    refine lv_iconst (v := nI 1) hx hb d_P_hasBit_8 (by decide) ?_
    refine lv_goto (tgt := 13) hx hb d_P_hasBit_9 (by decide) ?_
    refine rk_top (y := zI (bt x b)) (by rw [hc]; rfl) ?_
    exact rk_zret (()) hx hb hr hlocks (rfl) rfl hP hK hD hS d_P_hasBit_13
set_option maxHeartbeats 4000000 in
set_option maxRecDepth 100000 in
theorem c_P_has (l : Launch) (dC : Nat → ClassId) (dI : Nat → Nat → Nat) (cI cZ cJ : ClassId) (sz : Nat) (h0 q0 : Nat) (r0 : Nat → Int32) (a b : Nat) (ha : a < 32) (hb32 : b < 32) : Met l y_P_has (.code y_P_has b_P_has 3 (some .boolean) :: WT) { frames := 1, cells := 0, slots := 0, locals := 21 } (va_Pc [.ref h0, .int (nI a), .int (nI b)] (rk_pre (dC, dI) [(cI, .int), (cZ, .boolean), (cJ, .long)] sz [(h0, .inr (0, [.ref q0])), (q0, .inl (cI, 32, .inl r0))])) (va_Qi (fun (r : Int32) (u : Unit) => r = zI (bt (r0 a) b)) (fun _ s9 => rk_at (dC, dI) [(cI, .int), (cZ, .boolean), (cJ, .long)] (va_A [(h0, .inr (0, [.ref q0])), (q0, .inl (cI, 32, .inl r0))] sz) [(h0, .inr (0, [.ref q0])), (q0, .inl (cI, 32, .inl r0))] s9) (va_A [(h0, .inr (0, [.ref q0])), (q0, .inl (cI, 32, .inl r0))] sz)) 0 0 (va_A [(h0, .inr (0, [.ref q0])), (q0, .inl (cI, 32, .inl r0))] sz) := by
  refine rk_body (by decide) (Nat.le_of_ble_eq_true rfl) ?_
  intro p e s m below meth c hx hb hml hr htw hown hlocks hin hsz hP hK hD hA hS ls hl
  have hown : s.vm.findClass R_P = some m.cls := hown
  have hl : lv_has ls 3 [(0, .ref h0), (1, .int (nI a)), (2, .int (nI b))] := hl
  refine lv_aload_n hx hb d_P_has_0 rfl (lv_at hl 0 rfl) ?_
  refine va_get (D := (dC, dI)) (ci := 0) (v := .ref q0) (C := R_P) (T := F_P) (N := 1) hx hb htw u_P hown hK hP 0 rfl rfl 0 (by decide) (htw _ l_P_9) (fun _ h9 => h9) rfl d_P_has_1 ?_
  refine lv_iload_n hx hb d_P_has_4 rfl (lv_at hl 1 rfl) ?_
  refine va_iald hx hb hK hP 1 0 rfl rfl (vp_in_nI (n := a) (show a < 32 by omega) (by decide)) d_P_has_5 ?_
  refine rk_top (y := r0 a) (congrArg r0 (nI_clamp (show a < 2 ^ 31 by omega))) ?_
  refine lv_iload_n hx hb d_P_has_6 rfl (lv_at hl 2 rfl) ?_
  refine rk_backi (wc := []) (wr := [(h0, .inr (0, [.ref q0])), (q0, .inl (cI, 32, .inl r0))]) (va_runS (As := [.int (r0 a), .int (nI b)]) (rest := []) ⟨hx, hb, hml, hown, htw⟩ (c_P_hasBit l dC dI cI cZ cJ _ (r0 a) b hb32) (rk_cwS 2 htw gc_P_has_7 (by decide +kernel) ⟨(Nat.le_of_ble_eq_true rfl), (Nat.le_of_ble_eq_true rfl)⟩) (⟨rk_blind, rk_give (rk_psub (isC := []) hP rfl) hK (hD.sub [] rfl rfl)⟩) rfl rfl hl.1 rfl (lv_room (Nat.le_of_ble_eq_true rfl)) d_P_has_7 ⟨(Nat.le_of_ble_eq_true rfl), (Nat.le_of_ble_eq_true rfl)⟩) hP hD hS hA [] [0, 1] rfl rfl rfl (by decide) (fun x5 u5 H locs hp hP hD hS => ?_)
  subst hp
  have hP : va_P (dC, dI) classes [(h0, .inr (0, [.ref q0])), (q0, .inl (cI, 32, .inl r0))] H := hP
  have hD : va_D _ [(h0, .inr (0, [.ref q0])), (q0, .inl (cI, 32, .inl r0))] := hD
  exact rk_zret (()) hx hb hr hlocks (rfl) rfl hP hK hD hS d_P_has_10
set_option maxHeartbeats 4000000 in
set_option maxRecDepth 100000 in
theorem c_P_put (l : Launch) (dC : Nat → ClassId) (dI : Nat → Nat → Nat) (cI cZ cJ : ClassId) (sz : Nat) (h0 q0 : Nat) (r0 : Nat → Int32) (f0 : Nat → Bool) (hR : rk_R r0 f0) (a b : Nat) (ha : a < 32) (hb32 : b < 32) (z : Bool) : Met l y_P_put (.code y_P_put b_P_put 4 none :: WT) { frames := 0, cells := 0, slots := 0, locals := 0 } (va_Pc [.ref h0, .int (nI a), .int (nI b), .int (zI z)] (rk_pre (dC, dI) [(cI, .int), (cZ, .boolean), (cJ, .long)] sz [(h0, .inr (0, [.ref q0])), (q0, .inl (cI, 32, .inl r0))])) (va_Qv (fun (u : Nat → Int32) => rk_R u (fun p => if p = 32 * a + b then z else f0 p)) (fun u s9 => rk_at (dC, dI) [(cI, .int), (cZ, .boolean), (cJ, .long)] (va_A [(h0, .inr (0, [.ref q0])), (q0, .inl (cI, 32, .inl r0))] sz) [(h0, .inr (0, [.ref q0])), (q0, .inl (cI, 32, .inl u))] s9) (va_A [(h0, .inr (0, [.ref q0])), (q0, .inl (cI, 32, .inl r0))] sz)) 0 0 (va_A [(h0, .inr (0, [.ref q0])), (q0, .inl (cI, 32, .inl r0))] sz) := by
  refine rk_body (by decide) (Nat.le_of_ble_eq_true rfl) ?_
  intro p e s m below meth c hx hb hml hr htw hown hlocks hin hsz hP hK hD hA hS ls hl
  have hown : s.vm.findClass R_P = some m.cls := hown
  have hl : lv_has ls 4 [(0, .ref h0), (1, .int (nI a)), (2, .int (nI b)), (3, .int (zI z))] := hl
  refine lv_iload_n hx hb d_P_put_0 rfl (lv_at hl 3 rfl) ?_
  refine lv_if_eq (tgt := 19) hx hb d_P_put_1 (by decide) (fun hc => ?_) (fun hc => ?_)
  · have hc := zI_0.mp hc
    subst hc
    refine lv_aload_n hx hb d_P_put_19 rfl (lv_at hl 0 rfl) ?_
    refine va_get (D := (dC, dI)) (ci := 0) (v := .ref q0) (C := R_P) (T := F_P) (N := 1) hx hb htw u_P hown hK hP 0 rfl rfl 0 (by decide) (htw _ l_P_9) (fun _ h9 => h9) rfl d_P_put_20 ?_
    refine lv_iload_n hx hb d_P_put_23 rfl (lv_at hl 1 rfl) ?_
    refine lv_dup2_11 hx hb d_P_put_24 rfl rfl ?_
    refine va_iald hx hb hK hP 1 0 rfl rfl (vp_in_nI (n := a) (show a < 32 by omega) (by decide)) d_P_put_25 ?_
    refine rk_top (y := r0 a) (congrArg r0 (nI_clamp (show a < 2 ^ 31 by omega))) ?_
    refine lv_iconst (v := nI 1) hx hb d_P_put_26 (by decide) ?_
    refine lv_iload_n hx hb d_P_put_27 rfl (lv_at hl 2 rfl) ?_
    refine lv_ishl hx hb d_P_put_28 ?_
    refine lv_iconst (v := -1) hx hb d_P_put_29 (by decide) ?_
    refine lv_ixor hx hb d_P_put_30 ?_
    refine lv_iand hx hb d_P_put_31 ?_
    refine va_iast hx hb hK hP hD hS 1 0 rfl rfl (vp_in_nI (n := a) (show a < 32 by omega) (by decide)) d_P_put_32 (fun H locs hP hD hS => ?_)
    rw [nI_clamp (show a < 2 ^ 31 by omega)] at hP hD
    have hP : va_P (dC, dI) classes [(h0, .inr (0, [.ref q0])), (q0, .inl (cI, 32, .inl (upd r0 a ((r0 a) &&& (((nI 1) <<< (nI b &&& 31)) ^^^ (-1))))))] H := hP
    have hD : va_D _ [(h0, .inr (0, [.ref q0])), (q0, .inl (cI, 32, .inl (upd r0 a ((r0 a) &&& (((nI 1) <<< (nI b &&& 31)) ^^^ (-1))))))] := hD
    exact rk_vret (_) hx hb hr hlocks (rk_put0 hR ha hb32) rfl hP hK hD hS d_P_put_33
  · have hc := zI_n.mp hc
    subst hc
    refine lv_aload_n hx hb d_P_put_4 rfl (lv_at hl 0 rfl) ?_
    refine va_get (D := (dC, dI)) (ci := 0) (v := .ref q0) (C := R_P) (T := F_P) (N := 1) hx hb htw u_P hown hK hP 0 rfl rfl 0 (by decide) (htw _ l_P_9) (fun _ h9 => h9) rfl d_P_put_5 ?_
    refine lv_iload_n hx hb d_P_put_8 rfl (lv_at hl 1 rfl) ?_
    refine lv_dup2_11 hx hb d_P_put_9 rfl rfl ?_
    refine va_iald hx hb hK hP 1 0 rfl rfl (vp_in_nI (n := a) (show a < 32 by omega) (by decide)) d_P_put_10 ?_
    refine rk_top (y := r0 a) (congrArg r0 (nI_clamp (show a < 2 ^ 31 by omega))) ?_
    refine lv_iconst (v := nI 1) hx hb d_P_put_11 (by decide) ?_
    refine lv_iload_n hx hb d_P_put_12 rfl (lv_at hl 2 rfl) ?_
    refine lv_ishl hx hb d_P_put_13 ?_
    refine lv_ior hx hb d_P_put_14 ?_
    refine va_iast hx hb hK hP hD hS 1 0 rfl rfl (vp_in_nI (n := a) (show a < 32 by omega) (by decide)) d_P_put_15 (fun H locs hP hD hS => ?_)
    rw [nI_clamp (show a < 2 ^ 31 by omega)] at hP hD
    have hP : va_P (dC, dI) classes [(h0, .inr (0, [.ref q0])), (q0, .inl (cI, 32, .inl (upd r0 a ((r0 a) ||| ((nI 1) <<< (nI b &&& 31))))))] H := hP
    have hD : va_D _ [(h0, .inr (0, [.ref q0])), (q0, .inl (cI, 32, .inl (upd r0 a ((r0 a) ||| ((nI 1) <<< (nI b &&& 31))))))] := hD
    refine lv_goto (tgt := 33) hx hb d_P_put_16 (by decide) ?_
    exact rk_vret (_) hx hb hr hlocks (rk_put1 hR ha hb32) rfl hP hK hD hS d_P_put_33
set_option maxHeartbeats 4000000 in
set_option maxRecDepth 100000 in
theorem c_P_copyFrom (l : Launch) (dC : Nat → ClassId) (dI : Nat → Nat → Nat) (cI cZ cJ : ClassId) (sz : Nat) (h0 q0 h1 q1 : Nat) (r0 r1 : Nat → Int32) : Met l y_P_copyFrom (.code y_P_copyFrom b_P_copyFrom 3 none :: WT) { frames := 0, cells := 0, slots := 0, locals := 0 } (va_Pc [.ref h0, .ref h1] (rk_pre (dC, dI) [(cI, .int), (cZ, .boolean), (cJ, .long)] sz [(h0, .inr (0, [.ref q0])), (q0, .inl (cI, 32, .inl r0)), (h1, .inr (0, [.ref q1])), (q1, .inl (cI, 32, .inl r1))])) (va_Qv (fun (u : Nat → Int32) => ∀ j, j < 32 → u j = r1 j) (fun u s9 => rk_at (dC, dI) [(cI, .int), (cZ, .boolean), (cJ, .long)] (va_A [(h0, .inr (0, [.ref q0])), (q0, .inl (cI, 32, .inl r0)), (h1, .inr (0, [.ref q1])), (q1, .inl (cI, 32, .inl r1))] sz) [(h0, .inr (0, [.ref q0])), (q0, .inl (cI, 32, .inl u)), (h1, .inr (0, [.ref q1])), (q1, .inl (cI, 32, .inl r1))] s9) (va_A [(h0, .inr (0, [.ref q0])), (q0, .inl (cI, 32, .inl r0)), (h1, .inr (0, [.ref q1])), (q1, .inl (cI, 32, .inl r1))] sz)) 0 0 (va_A [(h0, .inr (0, [.ref q0])), (q0, .inl (cI, 32, .inl r0)), (h1, .inr (0, [.ref q1])), (q1, .inl (cI, 32, .inl r1))] sz) := by
  refine rk_body (by decide) (Nat.le_of_ble_eq_true rfl) ?_
  intro p e s m below meth c hx hb hml hr htw hown hlocks hin hsz hP hK hD hA hS ls hl
  have hown : s.vm.findClass R_P = some m.cls := hown
  have hl : lv_has ls 3 [(0, .ref h0), (1, .ref h1)] := hl
  refine lv_iconst (v := nI 0) hx hb d_P_copyFrom_0 (by decide) ?_
  refine lv_istore_n (lv' := [(2, .int (nI 0)), (0, .ref h0), (1, .ref h1)]) hx hb d_P_copyFrom_1 rfl hl (by decide) rfl (fun ls hl => ?_)
  have lp : ∀ (kf : Nat) (i : Nat), 32 - i < kf → i ≤ 32 → ∀ x : Nat → Int32, (∀ j, j < i → x j = r1 j) → ∀ (ls : Array Slot) (H : Heap) (locs : List Loc), lv_has ls 3 [(2, .int (nI i)), (0, .ref h0), (1, .ref h1)] → va_P (dC, dI) classes [(h0, .inr (0, [.ref q0])), (q0, .inl (cI, 32, .inl x)), (h1, .inr (0, [.ref q1])), (q1, .inl (cI, 32, .inl r1))] H → va_D (va_A [(h0, .inr (0, [.ref q0])), (q0, .inl (cI, 32, .inl r0)), (h1, .inr (0, [.ref q1])), (q1, .inl (cI, 32, .inl r1))] sz) [(h0, .inr (0, [.ref q0])), (q0, .inl (cI, 32, .inl x)), (h1, .inr (0, [.ref q1])), (q1, .inl (cI, 32, .inl r1))] → va_S (va_A [(h0, .inr (0, [.ref q0])), (q0, .inl (cI, 32, .inl r0)), (h1, .inr (0, [.ref q1])), (q1, .inl (cI, 32, .inl r1))] sz) s.heap H locs → W p l e { frames := 0, cells := 0, slots := 0, locals := 0 } s m ([.ref h0, .ref h1]).toArray below meth c H locs 0 0 (MQ below (va_Qv (fun (u : Nat → Int32) => ∀ j, j < 32 → u j = r1 j) (fun u s9 => rk_at (dC, dI) [(cI, .int), (cZ, .boolean), (cJ, .long)] (va_A [(h0, .inr (0, [.ref q0])), (q0, .inl (cI, 32, .inl r0)), (h1, .inr (0, [.ref q1])), (q1, .inl (cI, 32, .inl r1))] sz) [(h0, .inr (0, [.ref q0])), (q0, .inl (cI, 32, .inl u)), (h1, .inr (0, [.ref q1])), (q1, .inl (cI, 32, .inl r1))] s9) (va_A [(h0, .inr (0, [.ref q0])), (q0, .inl (cI, 32, .inl r0)), (h1, .inr (0, [.ref q1])), (q1, .inl (cI, 32, .inl r1))] sz)) ([.ref h0, .ref h1]).toArray s 0 0 (va_A [(h0, .inr (0, [.ref q0])), (q0, .inl (cI, 32, .inl r0)), (h1, .inr (0, [.ref q1])), (q1, .inl (cI, 32, .inl r1))] sz)) (F0 m 2 ls []) := by
    intro kf
    induction kf with
    | zero => intro i hk hi x hx0; exact absurd hk (by omega)
    | succ kf ih =>
      intro i hk hi x hx0 ls H locs hl hP hD hS
      refine lv_iload_n hx hb d_P_copyFrom_2 rfl (lv_at hl 0 rfl) ?_
      refine lv_bipush (v := nI 32) hx hb d_P_copyFrom_3 (by decide) ?_
      refine lv_icmp_ge (tgt := 26) hx hb d_P_copyFrom_5 (by decide) (fun hc => ?_) (fun hc => ?_)
      · have hc := (nI_leI (by omega) (by omega)).mp hc
        exact rk_vret (x) hx hb hr hlocks (fun j hj => hx0 j (by omega)) rfl hP hK hD hS d_P_copyFrom_26
      · have hc := rk_gt (by omega) (by omega) hc
        refine lv_aload_n hx hb d_P_copyFrom_8 rfl (lv_at hl 1 rfl) ?_
        refine va_get (D := (dC, dI)) (ci := 0) (v := .ref q0) (C := R_P) (T := F_P) (N := 1) hx hb htw u_P hown hK hP 0 rfl rfl 0 (by decide) (htw _ l_P_9) (fun _ h9 => h9) rfl d_P_copyFrom_9 ?_
        refine lv_iload_n hx hb d_P_copyFrom_12 rfl (lv_at hl 0 rfl) ?_
        refine lv_aload_n hx hb d_P_copyFrom_13 rfl (lv_at hl 2 rfl) ?_
        refine va_get (D := (dC, dI)) (ci := 0) (v := .ref q1) (C := R_P) (T := F_P) (N := 1) hx hb htw u_P hown hK hP 2 rfl rfl 0 (by decide) (htw _ l_P_9) (fun _ h9 => h9) rfl d_P_copyFrom_14 ?_
        refine lv_iload_n hx hb d_P_copyFrom_17 rfl (lv_at hl 0 rfl) ?_
        refine va_iald hx hb hK hP 3 0 rfl rfl (vp_in_nI (n := i) (show i < 32 by omega) (by decide)) d_P_copyFrom_18 ?_
        refine rk_top (y := r1 i) (congrArg r1 (nI_clamp (show i < 2 ^ 31 by omega))) ?_
        refine va_iast hx hb hK hP hD hS 1 0 rfl rfl (vp_in_nI (n := i) (show i < 32 by omega) (by decide)) d_P_copyFrom_19 (fun H locs hP hD hS => ?_)
        rw [nI_clamp (show i < 2 ^ 31 by omega)] at hP hD
        have hP : va_P (dC, dI) classes [(h0, .inr (0, [.ref q0])), (q0, .inl (cI, 32, .inl (upd x i (r1 i)))), (h1, .inr (0, [.ref q1])), (q1, .inl (cI, 32, .inl r1))] H := hP
        have hD : va_D _ [(h0, .inr (0, [.ref q0])), (q0, .inl (cI, 32, .inl (upd x i (r1 i)))), (h1, .inr (0, [.ref q1])), (q1, .inl (cI, 32, .inl r1))] := hD
        refine lv_iinc (k := 0) (v := nI (i + 1)) (lv' := [(2, .int (nI (i + 1))), (0, .ref h0), (1, .ref h1)]) hx hb d_P_copyFrom_20 hl rfl (nI_1 i) (by decide) rfl (fun ls hl => ?_)
        refine lv_goto (tgt := 2) hx hb d_P_copyFrom_23 (by decide) ?_
        exact ih (i + 1) (by omega) (by omega) _ (rk_upd_lt hx0 rfl) ls H locs hl hP hD hS
  exact lp 33 0 (by omega) (by omega) r0 (fun j hj => by omega) ls _ _ hl hP hD hS
set_option maxHeartbeats 4000000 in
set_option maxRecDepth 100000 in
theorem c_P_becomeDifference (l : Launch) (dC : Nat → ClassId) (dI : Nat → Nat → Nat) (cI cZ cJ : ClassId) (sz : Nat) (h0 q0 h1 q1 h2 q2 : Nat) (r0 r1 r2 : Nat → Int32) : Met l y_P_becomeDifference (.code y_P_becomeDifference b_P_becomeDifference 4 none :: WT) { frames := 0, cells := 0, slots := 0, locals := 0 } (va_Pc [.ref h0, .ref h1, .ref h2] (rk_pre (dC, dI) [(cI, .int), (cZ, .boolean), (cJ, .long)] sz [(h0, .inr (0, [.ref q0])), (q0, .inl (cI, 32, .inl r0)), (h1, .inr (0, [.ref q1])), (q1, .inl (cI, 32, .inl r1)), (h2, .inr (0, [.ref q2])), (q2, .inl (cI, 32, .inl r2))])) (va_Qv (fun (u : Nat → Int32) => ∀ j, j < 32 → u j = r1 j &&& (r2 j ^^^ (-1))) (fun u s9 => rk_at (dC, dI) [(cI, .int), (cZ, .boolean), (cJ, .long)] (va_A [(h0, .inr (0, [.ref q0])), (q0, .inl (cI, 32, .inl r0)), (h1, .inr (0, [.ref q1])), (q1, .inl (cI, 32, .inl r1)), (h2, .inr (0, [.ref q2])), (q2, .inl (cI, 32, .inl r2))] sz) [(h0, .inr (0, [.ref q0])), (q0, .inl (cI, 32, .inl u)), (h1, .inr (0, [.ref q1])), (q1, .inl (cI, 32, .inl r1)), (h2, .inr (0, [.ref q2])), (q2, .inl (cI, 32, .inl r2))] s9) (va_A [(h0, .inr (0, [.ref q0])), (q0, .inl (cI, 32, .inl r0)), (h1, .inr (0, [.ref q1])), (q1, .inl (cI, 32, .inl r1)), (h2, .inr (0, [.ref q2])), (q2, .inl (cI, 32, .inl r2))] sz)) 0 0 (va_A [(h0, .inr (0, [.ref q0])), (q0, .inl (cI, 32, .inl r0)), (h1, .inr (0, [.ref q1])), (q1, .inl (cI, 32, .inl r1)), (h2, .inr (0, [.ref q2])), (q2, .inl (cI, 32, .inl r2))] sz) := by
  refine rk_body (by decide) (Nat.le_of_ble_eq_true rfl) ?_
  intro p e s m below meth c hx hb hml hr htw hown hlocks hin hsz hP hK hD hA hS ls hl
  have hown : s.vm.findClass R_P = some m.cls := hown
  have hl : lv_has ls 4 [(0, .ref h0), (1, .ref h1), (2, .ref h2)] := hl
  refine lv_iconst (v := nI 0) hx hb d_P_becomeDifference_0 (by decide) ?_
  refine lv_istore_n (lv' := [(3, .int (nI 0)), (0, .ref h0), (1, .ref h1), (2, .ref h2)]) hx hb d_P_becomeDifference_1 rfl hl (by decide) rfl (fun ls hl => ?_)
  have lp : ∀ (kf : Nat) (i : Nat), 32 - i < kf → i ≤ 32 → ∀ x : Nat → Int32, (∀ j, j < i → x j = r1 j &&& (r2 j ^^^ (-1))) → ∀ (ls : Array Slot) (H : Heap) (locs : List Loc), lv_has ls 4 [(3, .int (nI i)), (0, .ref h0), (1, .ref h1), (2, .ref h2)] → va_P (dC, dI) classes [(h0, .inr (0, [.ref q0])), (q0, .inl (cI, 32, .inl x)), (h1, .inr (0, [.ref q1])), (q1, .inl (cI, 32, .inl r1)), (h2, .inr (0, [.ref q2])), (q2, .inl (cI, 32, .inl r2))] H → va_D (va_A [(h0, .inr (0, [.ref q0])), (q0, .inl (cI, 32, .inl r0)), (h1, .inr (0, [.ref q1])), (q1, .inl (cI, 32, .inl r1)), (h2, .inr (0, [.ref q2])), (q2, .inl (cI, 32, .inl r2))] sz) [(h0, .inr (0, [.ref q0])), (q0, .inl (cI, 32, .inl x)), (h1, .inr (0, [.ref q1])), (q1, .inl (cI, 32, .inl r1)), (h2, .inr (0, [.ref q2])), (q2, .inl (cI, 32, .inl r2))] → va_S (va_A [(h0, .inr (0, [.ref q0])), (q0, .inl (cI, 32, .inl r0)), (h1, .inr (0, [.ref q1])), (q1, .inl (cI, 32, .inl r1)), (h2, .inr (0, [.ref q2])), (q2, .inl (cI, 32, .inl r2))] sz) s.heap H locs → W p l e { frames := 0, cells := 0, slots := 0, locals := 0 } s m ([.ref h0, .ref h1, .ref h2]).toArray below meth c H locs 0 0 (MQ below (va_Qv (fun (u : Nat → Int32) => ∀ j, j < 32 → u j = r1 j &&& (r2 j ^^^ (-1))) (fun u s9 => rk_at (dC, dI) [(cI, .int), (cZ, .boolean), (cJ, .long)] (va_A [(h0, .inr (0, [.ref q0])), (q0, .inl (cI, 32, .inl r0)), (h1, .inr (0, [.ref q1])), (q1, .inl (cI, 32, .inl r1)), (h2, .inr (0, [.ref q2])), (q2, .inl (cI, 32, .inl r2))] sz) [(h0, .inr (0, [.ref q0])), (q0, .inl (cI, 32, .inl u)), (h1, .inr (0, [.ref q1])), (q1, .inl (cI, 32, .inl r1)), (h2, .inr (0, [.ref q2])), (q2, .inl (cI, 32, .inl r2))] s9) (va_A [(h0, .inr (0, [.ref q0])), (q0, .inl (cI, 32, .inl r0)), (h1, .inr (0, [.ref q1])), (q1, .inl (cI, 32, .inl r1)), (h2, .inr (0, [.ref q2])), (q2, .inl (cI, 32, .inl r2))] sz)) ([.ref h0, .ref h1, .ref h2]).toArray s 0 0 (va_A [(h0, .inr (0, [.ref q0])), (q0, .inl (cI, 32, .inl r0)), (h1, .inr (0, [.ref q1])), (q1, .inl (cI, 32, .inl r1)), (h2, .inr (0, [.ref q2])), (q2, .inl (cI, 32, .inl r2))] sz)) (F0 m 2 ls []) := by
    intro kf
    induction kf with
    | zero => intro i hk hi x hx0; exact absurd hk (by omega)
    | succ kf ih =>
      intro i hk hi x hx0 ls H locs hl hP hD hS
      refine lv_iload_n hx hb d_P_becomeDifference_2 rfl (lv_at hl 0 rfl) ?_
      refine lv_bipush (v := nI 32) hx hb d_P_becomeDifference_3 (by decide) ?_
      refine lv_icmp_ge (tgt := 35) hx hb d_P_becomeDifference_5 (by decide) (fun hc => ?_) (fun hc => ?_)
      · have hc := (nI_leI (by omega) (by omega)).mp hc
        exact rk_vret (x) hx hb hr hlocks (fun j hj => hx0 j (by omega)) rfl hP hK hD hS d_P_becomeDifference_35
      · have hc := rk_gt (by omega) (by omega) hc
        refine lv_aload_n hx hb d_P_becomeDifference_8 rfl (lv_at hl 1 rfl) ?_
        refine va_get (D := (dC, dI)) (ci := 0) (v := .ref q0) (C := R_P) (T := F_P) (N := 1) hx hb htw u_P hown hK hP 0 rfl rfl 0 (by decide) (htw _ l_P_9) (fun _ h9 => h9) rfl d_P_becomeDifference_9 ?_
        refine lv_iload_n hx hb d_P_becomeDifference_12 rfl (lv_at hl 0 rfl) ?_
        refine lv_aload_n hx hb d_P_becomeDifference_13 rfl (lv_at hl 2 rfl) ?_
        refine va_get (D := (dC, dI)) (ci := 0) (v := .ref q1) (C := R_P) (T := F_P) (N := 1) hx hb htw u_P hown hK hP 2 rfl rfl 0 (by decide) (htw _ l_P_9) (fun _ h9 => h9) rfl d_P_becomeDifference_14 ?_
        refine lv_iload_n hx hb d_P_becomeDifference_17 rfl (lv_at hl 0 rfl) ?_
        refine va_iald hx hb hK hP 3 0 rfl rfl (vp_in_nI (n := i) (show i < 32 by omega) (by decide)) d_P_becomeDifference_18 ?_
        refine rk_top (y := r1 i) (congrArg r1 (nI_clamp (show i < 2 ^ 31 by omega))) ?_
        refine lv_aload_n hx hb d_P_becomeDifference_19 rfl (lv_at hl 3 rfl) ?_
        refine va_get (D := (dC, dI)) (ci := 0) (v := .ref q2) (C := R_P) (T := F_P) (N := 1) hx hb htw u_P hown hK hP 4 rfl rfl 0 (by decide) (htw _ l_P_9) (fun _ h9 => h9) rfl d_P_becomeDifference_20 ?_
        refine lv_iload_n hx hb d_P_becomeDifference_23 rfl (lv_at hl 0 rfl) ?_
        refine va_iald hx hb hK hP 5 0 rfl rfl (vp_in_nI (n := i) (show i < 32 by omega) (by decide)) d_P_becomeDifference_24 ?_
        refine rk_top (y := r2 i) (congrArg r2 (nI_clamp (show i < 2 ^ 31 by omega))) ?_
        refine lv_iconst (v := -1) hx hb d_P_becomeDifference_25 (by decide) ?_
        refine lv_ixor hx hb d_P_becomeDifference_26 ?_
        refine lv_iand hx hb d_P_becomeDifference_27 ?_
        refine va_iast hx hb hK hP hD hS 1 0 rfl rfl (vp_in_nI (n := i) (show i < 32 by omega) (by decide)) d_P_becomeDifference_28 (fun H locs hP hD hS => ?_)
        rw [nI_clamp (show i < 2 ^ 31 by omega)] at hP hD
        have hP : va_P (dC, dI) classes [(h0, .inr (0, [.ref q0])), (q0, .inl (cI, 32, .inl (upd x i ((r1 i) &&& ((r2 i) ^^^ (-1)))))), (h1, .inr (0, [.ref q1])), (q1, .inl (cI, 32, .inl r1)), (h2, .inr (0, [.ref q2])), (q2, .inl (cI, 32, .inl r2))] H := hP
        have hD : va_D _ [(h0, .inr (0, [.ref q0])), (q0, .inl (cI, 32, .inl (upd x i ((r1 i) &&& ((r2 i) ^^^ (-1)))))), (h1, .inr (0, [.ref q1])), (q1, .inl (cI, 32, .inl r1)), (h2, .inr (0, [.ref q2])), (q2, .inl (cI, 32, .inl r2))] := hD
        refine lv_iinc (k := 0) (v := nI (i + 1)) (lv' := [(3, .int (nI (i + 1))), (0, .ref h0), (1, .ref h1), (2, .ref h2)]) hx hb d_P_becomeDifference_29 hl rfl (nI_1 i) (by decide) rfl (fun ls hl => ?_)
        refine lv_goto (tgt := 2) hx hb d_P_becomeDifference_32 (by decide) ?_
        exact ih (i + 1) (by omega) (by omega) _ (rk_upd_lt (g := fun j => r1 j &&& (r2 j ^^^ (-1))) hx0 rfl) ls H locs hl hP hD hS
  exact lp 33 0 (by omega) (by omega) r0 (fun j hj => by omega) ls _ _ hl hP hD hS
set_option maxHeartbeats 4000000 in
set_option maxRecDepth 100000 in
theorem c_P_size (l : Launch) (dC : Nat → ClassId) (dI : Nat → Nat → Nat) (cI cZ cJ : ClassId) (sz : Nat) (h0 q0 : Nat) (r0 : Nat → Int32) : Met l y_P_size (.code y_P_size b_P_size 3 (some .int) :: WT) { frames := 1, cells := 0, slots := 0, locals := 20 } (va_Pc [.ref h0] (rk_pre (dC, dI) [(cI, .int), (cZ, .boolean), (cJ, .long)] sz [(h0, .inr (0, [.ref q0])), (q0, .inl (cI, 32, .inl r0))])) (va_Qi (fun (r : Int32) (u : Unit) => r = nI (rk_sz r0 32)) (fun _ s9 => rk_at (dC, dI) [(cI, .int), (cZ, .boolean), (cJ, .long)] (va_A [(h0, .inr (0, [.ref q0])), (q0, .inl (cI, 32, .inl r0))] sz) [(h0, .inr (0, [.ref q0])), (q0, .inl (cI, 32, .inl r0))] s9) (va_A [(h0, .inr (0, [.ref q0])), (q0, .inl (cI, 32, .inl r0))] sz)) 0 0 (va_A [(h0, .inr (0, [.ref q0])), (q0, .inl (cI, 32, .inl r0))] sz) := by
  refine rk_body (by decide) (Nat.le_of_ble_eq_true rfl) ?_
  intro p e s m below meth c hx hb hml hr htw hown hlocks hin hsz hP hK hD hA hS ls hl
  have hown : s.vm.findClass R_P = some m.cls := hown
  have hl : lv_has ls 3 [(0, .ref h0)] := hl
  refine lv_iconst (v := nI 0) hx hb d_P_size_0 (by decide) ?_
  refine lv_istore_n (lv' := [(1, .int (nI 0)), (0, .ref h0)]) hx hb d_P_size_1 rfl hl (by decide) rfl (fun ls hl => ?_)
  refine lv_iconst (v := nI 0) hx hb d_P_size_2 (by decide) ?_
  refine lv_istore_n (lv' := [(2, .int (nI 0)), (1, .int (nI 0)), (0, .ref h0)]) hx hb d_P_size_3 rfl hl (by decide) rfl (fun ls hl => ?_)
  have lp : ∀ (kf : Nat) (i : Nat), 32 - i < kf → i ≤ 32 → ∀ (ls : Array Slot) (H : Heap) (locs : List Loc), lv_has ls 3 [(2, .int (nI i)), (1, .int (nI (rk_sz r0 i))), (0, .ref h0)] → va_P (dC, dI) classes [(h0, .inr (0, [.ref q0])), (q0, .inl (cI, 32, .inl r0))] H → va_D (va_A [(h0, .inr (0, [.ref q0])), (q0, .inl (cI, 32, .inl r0))] sz) [(h0, .inr (0, [.ref q0])), (q0, .inl (cI, 32, .inl r0))] → va_S (va_A [(h0, .inr (0, [.ref q0])), (q0, .inl (cI, 32, .inl r0))] sz) s.heap H locs → W p l e { frames := 1, cells := 0, slots := 0, locals := 20 } s m ([.ref h0]).toArray below meth c H locs 0 0 (MQ below (va_Qi (fun (r : Int32) (u : Unit) => r = nI (rk_sz r0 32)) (fun _ s9 => rk_at (dC, dI) [(cI, .int), (cZ, .boolean), (cJ, .long)] (va_A [(h0, .inr (0, [.ref q0])), (q0, .inl (cI, 32, .inl r0))] sz) [(h0, .inr (0, [.ref q0])), (q0, .inl (cI, 32, .inl r0))] s9) (va_A [(h0, .inr (0, [.ref q0])), (q0, .inl (cI, 32, .inl r0))] sz)) ([.ref h0]).toArray s 0 0 (va_A [(h0, .inr (0, [.ref q0])), (q0, .inl (cI, 32, .inl r0))] sz)) (F0 m 4 ls []) := by
    intro kf
    induction kf with
    | zero => intro i hk hi; exact absurd hk (by omega)
    | succ kf ih =>
      intro i hk hi ls H locs hl hP hD hS
      refine lv_iload_n hx hb d_P_size_4 rfl (lv_at hl 0 rfl) ?_
      refine lv_bipush (v := nI 32) hx hb d_P_size_5 (by decide) ?_
      refine lv_icmp_ge (tgt := 28) hx hb d_P_size_7 (by decide) (fun hc => ?_) (fun hc => ?_)
      · have hc := (nI_leI (by omega) (by omega)).mp hc
        refine lv_iload_n hx hb d_P_size_28 rfl (lv_at hl 1 rfl) ?_
        exact rk_iret (()) hx hb hr hlocks (by rw [show i = 32 by omega]) rfl hP hK hD hS d_P_size_29
      · have hc := rk_gt (by omega) (by omega) hc
        refine lv_iload_n hx hb d_P_size_10 rfl (lv_at hl 1 rfl) ?_
        refine lv_aload_n hx hb d_P_size_11 rfl (lv_at hl 2 rfl) ?_
        refine va_get (D := (dC, dI)) (ci := 0) (v := .ref q0) (C := R_P) (T := F_P) (N := 1) hx hb htw u_P hown hK hP 0 rfl rfl 0 (by decide) (htw _ l_P_9) (fun _ h9 => h9) rfl d_P_size_12 ?_
        refine lv_iload_n hx hb d_P_size_15 rfl (lv_at hl 0 rfl) ?_
        refine va_iald hx hb hK hP 1 0 rfl rfl (vp_in_nI (n := i) (show i < 32 by omega) (by decide)) d_P_size_16 ?_
        refine rk_top (y := r0 i) (congrArg r0 (nI_clamp (show i < 2 ^ 31 by omega))) ?_
        refine rk_backi (wc := []) (wr := [(h0, .inr (0, [.ref q0])), (q0, .inl (cI, 32, .inl r0))]) (va_runS (As := [.int (r0 i)]) (rest := [.int (nI (rk_sz r0 i))]) ⟨hx, hb, hml, hown, htw⟩ (c_JI_bitCount l dC dI cI cZ cJ _ (r0 i)) (rk_cwS 1 htw gc_P_size_17 (by decide +kernel) ⟨(Nat.le_of_ble_eq_true rfl), (Nat.le_of_ble_eq_true rfl)⟩) (⟨rk_blind, rk_give (rk_psub (isC := []) hP rfl) hK (hD.sub [] rfl rfl)⟩) rfl rfl hl.1 rfl (lv_room (Nat.le_of_ble_eq_true rfl)) d_P_size_17 ⟨(Nat.le_of_ble_eq_true rfl), (Nat.le_of_ble_eq_true rfl)⟩) hP hD hS hA [] [0, 1] rfl rfl rfl (by decide) (fun x5 u5 H locs hp hP hD hS => ?_)
        subst hp
        have hP : va_P (dC, dI) classes [(h0, .inr (0, [.ref q0])), (q0, .inl (cI, 32, .inl r0))] H := hP
        have hD : va_D _ [(h0, .inr (0, [.ref q0])), (q0, .inl (cI, 32, .inl r0))] := hD
        refine lv_iadd hx hb d_P_size_20 ?_
        refine rk_top (y := nI (rk_sz r0 i + (rk_c (bt (r0 i)) 32))) (nI_add (rk_sz r0 i) (rk_c (bt (r0 i)) 32)) ?_
        refine lv_istore_n (lv' := [(1, .int (nI (rk_sz r0 i + (rk_c (bt (r0 i)) 32)))), (2, .int (nI i)), (0, .ref h0)]) hx hb d_P_size_21 rfl hl (by decide) rfl (fun ls hl => ?_)
        refine lv_iinc (k := 1) (v := nI (i + 1)) (lv' := [(2, .int (nI (i + 1))), (1, .int (nI (rk_sz r0 i + (rk_c (bt (r0 i)) 32)))), (0, .ref h0)]) hx hb d_P_size_22 hl rfl (nI_1 i) (by decide) rfl (fun ls hl => ?_)
        refine lv_goto (tgt := 4) hx hb d_P_size_25 (by decide) ?_
        exact ih (i + 1) (by omega) (by omega) ls H locs hl hP hD hS
  exact lp 33 0 (by omega) (by omega) ls _ _ hl hP hD hS
set_option maxHeartbeats 4000000 in
set_option maxRecDepth 100000 in
theorem c_P_bitAt (l : Launch) (dC : Nat → ClassId) (dI : Nat → Nat → Nat) (cI cZ cJ : ClassId) (sz : Nat) (x : Int32) (k : Nat) (hk0 : k < rk_c (bt x) 32) : Met l y_P_bitAt (.code y_P_bitAt b_P_bitAt 4 (some .int) :: WT) { frames := 1, cells := 0, slots := 0, locals := 21 } (va_Pc [.int x, .int (nI k)] (rk_pre (dC, dI) [(cI, .int), (cZ, .boolean), (cJ, .long)] sz [])) (va_Qi (fun (r : Int32) (u : Unit) => ∃ b, b < 32 ∧ bt x b = true ∧ rk_c (bt x) b = k ∧ r = nI b) (fun _ s9 => rk_at (dC, dI) [(cI, .int), (cZ, .boolean), (cJ, .long)] (va_A [] sz) [] s9) (va_A [] sz)) 0 0 (va_A [] sz) := by
  refine rk_body (by decide) (Nat.le_of_ble_eq_true rfl) ?_
  intro p e s m below meth c hx hb hml hr htw hown hlocks hin hsz hP hK hD hA hS ls hl
  have hown : s.vm.findClass R_P = some m.cls := hown
  have hl : lv_has ls 4 [(0, .int x), (1, .int (nI k))] := hl
  refine lv_iload_n hx hb d_P_bitAt_0 rfl (lv_at hl 1 rfl) ?_
  refine lv_istore_n (lv' := [(2, .int (nI k)), (0, .int x), (1, .int (nI k))]) hx hb d_P_bitAt_1 rfl hl (by decide) rfl (fun ls hl => ?_)
  refine lv_iconst (v := nI 0) hx hb d_P_bitAt_2 (by decide) ?_
  refine lv_istore_n (lv' := [(3, .int (nI 0)), (2, .int (nI k)), (0, .int x), (1, .int (nI k))]) hx hb d_P_bitAt_3 rfl hl (by decide) rfl (fun ls hl => ?_)
  have lp : ∀ (kf : Nat) (i : Nat), 32 - i < kf → i ≤ 32 → rk_c (bt x) i ≤ k → ∀ (ls : Array Slot) (H : Heap) (locs : List Loc), lv_has ls 4 [(3, .int (nI i)), (2, .int (nI (k - rk_c (bt x) i))), (0, .int x), (1, .int (nI k))] → va_P (dC, dI) classes [] H → va_D (va_A [] sz) [] → va_S (va_A [] sz) s.heap H locs → W p l e { frames := 1, cells := 0, slots := 0, locals := 21 } s m ([.int x, .int (nI k)]).toArray below meth c H locs 0 0 (MQ below (va_Qi (fun (r : Int32) (u : Unit) => ∃ b, b < 32 ∧ bt x b = true ∧ rk_c (bt x) b = k ∧ r = nI b) (fun _ s9 => rk_at (dC, dI) [(cI, .int), (cZ, .boolean), (cJ, .long)] (va_A [] sz) [] s9) (va_A [] sz)) ([.int x, .int (nI k)]).toArray s 0 0 (va_A [] sz)) (F0 m 4 ls []) := by
    intro kf
    induction kf with
    | zero => intro i hk hi hj; exact absurd hk (by omega)
    | succ kf ih =>
      intro i hk hi hj ls H locs hl hP hD hS
      have hkl := rk_c_le (bt x) 32
      refine lv_iload_n hx hb d_P_bitAt_4 rfl (lv_at hl 0 rfl) ?_
      refine lv_bipush (v := nI 32) hx hb d_P_bitAt_5 (by decide) ?_
      refine lv_icmp_ge (tgt := 33) hx hb d_P_bitAt_7 (by decide) (fun hc => ?_) (fun hc => ?_)
      · have hc := (nI_leI (by omega) (by omega)).mp hc
        rw [show i = 32 by omega] at hj
        exact absurd hj (by omega)
      · have hc := rk_gt (by omega) (by omega) hc
        refine lv_iload_n hx hb d_P_bitAt_10 rfl (lv_at hl 2 rfl) ?_
        refine lv_iload_n hx hb d_P_bitAt_11 rfl (lv_at hl 0 rfl) ?_
        refine rk_backi (wc := []) (wr := []) (va_runS (As := [.int x, .int (nI i)]) (rest := []) ⟨hx, hb, hml, hown, htw⟩ (c_P_hasBit l dC dI cI cZ cJ _ x i (by omega)) (rk_cwS 2 htw gc_P_bitAt_12 (by decide +kernel) ⟨(Nat.le_of_ble_eq_true rfl), (Nat.le_of_ble_eq_true rfl)⟩) (⟨rk_blind, rk_give (rk_psub (isC := []) hP rfl) hK (hD.sub [] rfl rfl)⟩) rfl rfl hl.1 rfl (lv_room (Nat.le_of_ble_eq_true rfl)) d_P_bitAt_12 ⟨(Nat.le_of_ble_eq_true rfl), (Nat.le_of_ble_eq_true rfl)⟩) hP hD hS hA [] [] rfl rfl rfl (by decide) (fun x5 u5 H locs hp hP hD hS => ?_)
        subst hp
        have hP : va_P (dC, dI) classes [] H := hP
        have hD : va_D _ [] := hD
        refine lv_if_eq (tgt := 27) hx hb d_P_bitAt_15 (by decide) (fun hc => ?_) (fun hc => ?_)
        · have hc2 := rk_c_f (zI_0.mp hc)
          refine lv_iinc (k := 0) (v := nI (i + 1)) (lv' := [(3, .int (nI (i + 1))), (2, .int (nI (k - rk_c (bt x) i))), (0, .int x), (1, .int (nI k))]) hx hb d_P_bitAt_27 hl rfl (nI_1 i) (by decide) rfl (fun ls hl => ?_)
          refine lv_goto (tgt := 4) hx hb d_P_bitAt_30 (by decide) ?_
          rw [← hc2] at hl
          exact ih (i + 1) (by omega) (by omega) (by omega) ls H locs hl hP hD hS
        · have hbi := zI_n.mp hc
          have hc2 := rk_c_t hbi
          refine lv_iload_n hx hb d_P_bitAt_18 rfl (lv_at hl 1 rfl) ?_
          refine lv_if_ne (tgt := 24) hx hb d_P_bitAt_19 (by decide) (fun hc => ?_) (fun hc => ?_)
          · have hlt : rk_c (bt x) i < k := by
              rcases Nat.lt_or_ge (rk_c (bt x) i) k with z | z
              · exact z
              · exact absurd (by rw [show k - rk_c (bt x) i = 0 by omega]; rfl) hc
            have hl : lv_has ls 4 [(3, .int (nI i)), (2, .int (nI (k - rk_c (bt x) (i + 1) + 1))), (0, .int x), (1, .int (nI k))] := by rw [show k - rk_c (bt x) (i + 1) + 1 = k - rk_c (bt x) i by omega]; exact hl
            refine lv_iinc (k := 1) (v := nI (k - rk_c (bt x) (i + 1))) (lv' := [(2, .int (nI (k - rk_c (bt x) (i + 1)))), (3, .int (nI i)), (0, .int x), (1, .int (nI k))]) hx hb d_P_bitAt_24 hl rfl (pk_m1 _) (by decide) rfl (fun ls hl => ?_)
            refine lv_iinc (k := 1) (v := nI (i + 1)) (lv' := [(3, .int (nI (i + 1))), (2, .int (nI (k - rk_c (bt x) (i + 1)))), (0, .int x), (1, .int (nI k))]) hx hb d_P_bitAt_27 hl rfl (nI_1 i) (by decide) rfl (fun ls hl => ?_)
            refine lv_goto (tgt := 4) hx hb d_P_bitAt_30 (by decide) ?_
            exact ih (i + 1) (by omega) (by omega) (by omega) ls H locs hl hP hD hS
          · have hz : k - rk_c (bt x) i = 0 := by rw [← nI_0, nI_eq (by omega) (by omega)] at hc; exact hc
            refine lv_iload_n hx hb d_P_bitAt_22 rfl (lv_at hl 0 rfl) ?_
            exact rk_iret (()) hx hb hr hlocks (⟨i, by omega, hbi, by omega, rfl⟩) rfl hP hK hD hS d_P_bitAt_23
  exact lp 33 0 (by omega) (by omega) (Nat.zero_le _) ls _ _ hl hP hD hS
set_option maxHeartbeats 4000000 in
set_option maxRecDepth 100000 in
theorem c_P_joinWays (l : Launch) (dC : Nat → ClassId) (dI : Nat → Nat → Nat) (cI cZ cJ : ClassId) (sz : Nat) (h0 q0 : Nat) (r0 : Nat → Int32) (f0 : Nat → Bool) (hR : rk_R r0 f0) : Met l y_P_joinWays (.code y_P_joinWays b_P_joinWays 3 none :: WT) { frames := 2, cells := 0, slots := 0, locals := 43 } (va_Pc [.ref h0] (rk_pre (dC, dI) [(cI, .int), (cZ, .boolean), (cJ, .long)] sz [(h0, .inr (0, [.ref q0])), (q0, .inl (cI, 32, .inl r0))])) (va_Qv (fun (u : Nat → Int32) => rk_R u (rk_jv 32 f0)) (fun u s9 => rk_at (dC, dI) [(cI, .int), (cZ, .boolean), (cJ, .long)] (va_A [(h0, .inr (0, [.ref q0])), (q0, .inl (cI, 32, .inl r0))] sz) [(h0, .inr (0, [.ref q0])), (q0, .inl (cI, 32, .inl u))] s9) (va_A [(h0, .inr (0, [.ref q0])), (q0, .inl (cI, 32, .inl r0))] sz)) 0 0 (va_A [(h0, .inr (0, [.ref q0])), (q0, .inl (cI, 32, .inl r0))] sz) := by
  refine rk_body (by decide) (Nat.le_of_ble_eq_true rfl) ?_
  intro p e s m below meth c hx hb hml hr htw hown hlocks hin hsz hP hK hD hA hS ls hl
  have hown : s.vm.findClass R_P = some m.cls := hown
  have hl : lv_has ls 3 [(0, .ref h0)] := hl
  refine lv_iconst (v := nI 0) hx hb d_P_joinWays_0 (by decide) ?_
  refine lv_istore_n (lv' := [(1, .int (nI 0)), (0, .ref h0)]) hx hb d_P_joinWays_1 rfl hl (by decide) rfl (fun ls hl => ?_)
  have lp : ∀ (kf : Nat) (v : Nat), 32 - v < kf → v ≤ 32 → ∀ x : Nat → Int32, rk_R x (rk_jv v f0) → ∀ (ls : Array Slot) (H : Heap) (locs : List Loc), lv_has ls 3 [(1, .int (nI v)), (0, .ref h0)] → va_P (dC, dI) classes [(h0, .inr (0, [.ref q0])), (q0, .inl (cI, 32, .inl x))] H → va_D (va_A [(h0, .inr (0, [.ref q0])), (q0, .inl (cI, 32, .inl r0))] sz) [(h0, .inr (0, [.ref q0])), (q0, .inl (cI, 32, .inl x))] → va_S (va_A [(h0, .inr (0, [.ref q0])), (q0, .inl (cI, 32, .inl r0))] sz) s.heap H locs → W p l e { frames := 2, cells := 0, slots := 0, locals := 43 } s m ([.ref h0]).toArray below meth c H locs 0 0 (MQ below (va_Qv (fun (u : Nat → Int32) => rk_R u (rk_jv 32 f0)) (fun u s9 => rk_at (dC, dI) [(cI, .int), (cZ, .boolean), (cJ, .long)] (va_A [(h0, .inr (0, [.ref q0])), (q0, .inl (cI, 32, .inl r0))] sz) [(h0, .inr (0, [.ref q0])), (q0, .inl (cI, 32, .inl u))] s9) (va_A [(h0, .inr (0, [.ref q0])), (q0, .inl (cI, 32, .inl r0))] sz)) ([.ref h0]).toArray s 0 0 (va_A [(h0, .inr (0, [.ref q0])), (q0, .inl (cI, 32, .inl r0))] sz)) (F0 m 2 ls []) := by
    intro kf
    induction kf with
    | zero => intro v hk hv x hx0; exact absurd hk (by omega)
    | succ kf ih =>
      intro v hk hv x hx0 ls H locs hl hP hD hS
      refine lv_iload_n hx hb d_P_joinWays_2 rfl (lv_at hl 0 rfl) ?_
      refine lv_bipush (v := nI 32) hx hb d_P_joinWays_3 (by decide) ?_
      refine lv_icmp_ge (tgt := 52) hx hb d_P_joinWays_5 (by decide) (fun hc => ?_) (fun hc => ?_)
      · have hc := (nI_leI (by omega) (by omega)).mp hc
        exact rk_vret (x) hx hb hr hlocks (by rw [show v = 32 by omega] at hx0; exact hx0) rfl hP hK hD hS d_P_joinWays_52
      · have hc := rk_gt (by omega) (by omega) hc
        refine lv_iconst (v := nI 0) hx hb d_P_joinWays_8 (by decide) ?_
        refine lv_istore_n (lv' := [(2, .int (nI 0)), (1, .int (nI v)), (0, .ref h0)]) hx hb d_P_joinWays_9 rfl hl (by decide) rfl (fun ls hl => ?_)
        have lp2 : ∀ (kf2 : Nat) (a : Nat), 32 - a < kf2 → a ≤ 32 → ∀ y : Nat → Int32, rk_R y (rk_ja v a (rk_jv v f0)) → ∀ (ls : Array Slot) (H : Heap) (locs : List Loc), lv_has ls 3 [(2, .int (nI a)), (1, .int (nI v)), (0, .ref h0)] → va_P (dC, dI) classes [(h0, .inr (0, [.ref q0])), (q0, .inl (cI, 32, .inl y))] H → va_D (va_A [(h0, .inr (0, [.ref q0])), (q0, .inl (cI, 32, .inl r0))] sz) [(h0, .inr (0, [.ref q0])), (q0, .inl (cI, 32, .inl y))] → va_S (va_A [(h0, .inr (0, [.ref q0])), (q0, .inl (cI, 32, .inl r0))] sz) s.heap H locs → W p l e { frames := 2, cells := 0, slots := 0, locals := 43 } s m ([.ref h0]).toArray below meth c H locs 0 0 (MQ below (va_Qv (fun (u : Nat → Int32) => rk_R u (rk_jv 32 f0)) (fun u s9 => rk_at (dC, dI) [(cI, .int), (cZ, .boolean), (cJ, .long)] (va_A [(h0, .inr (0, [.ref q0])), (q0, .inl (cI, 32, .inl r0))] sz) [(h0, .inr (0, [.ref q0])), (q0, .inl (cI, 32, .inl u))] s9) (va_A [(h0, .inr (0, [.ref q0])), (q0, .inl (cI, 32, .inl r0))] sz)) ([.ref h0]).toArray s 0 0 (va_A [(h0, .inr (0, [.ref q0])), (q0, .inl (cI, 32, .inl r0))] sz)) (F0 m 10 ls []) := by
          intro kf2
          induction kf2 with
          | zero => intro a hk2 ha y hy0; exact absurd hk2 (by omega)
          | succ kf2 ih2 =>
            intro a hk2 ha y hy0 ls H locs hl hP hD hS
            refine lv_iload_n hx hb d_P_joinWays_10 rfl (lv_at hl 0 rfl) ?_
            refine lv_bipush (v := nI 32) hx hb d_P_joinWays_11 (by decide) ?_
            refine lv_icmp_ge (tgt := 46) hx hb d_P_joinWays_13 (by decide) (fun hc2 => ?_) (fun hc2 => ?_)
            · have hc2 := (nI_leI (by omega) (by omega)).mp hc2
              have hl := lv_sub (l' := [(1, .int (nI v)), (0, .ref h0)]) hl [1, 2] rfl
              refine lv_iinc (k := 0) (v := nI (v + 1)) (lv' := [(1, .int (nI (v + 1))), (0, .ref h0)]) hx hb d_P_joinWays_46 hl rfl (nI_1 v) (by decide) rfl (fun ls hl => ?_)
              refine lv_goto (tgt := 2) hx hb d_P_joinWays_49 (by decide) ?_
              exact ih (v + 1) (by omega) (by omega) y (by rw [show a = 32 by omega] at hy0; exact hy0) ls H locs hl hP hD hS
            · have hc2 := rk_gt (by omega) (by omega) hc2
              refine lv_aload_n hx hb d_P_joinWays_16 rfl (lv_at hl 2 rfl) ?_
              refine lv_iload_n hx hb d_P_joinWays_17 rfl (lv_at hl 0 rfl) ?_
              refine lv_iload_n hx hb d_P_joinWays_18 rfl (lv_at hl 1 rfl) ?_
              refine rk_backi (wc := [(h0, .inr (0, [.ref q0])), (q0, .inl (cI, 32, .inl y))]) (wr := []) (va_runV (As := [.int (nI a), .int (nI v)]) (rest := []) ⟨hx, hb, hml, hown, htw⟩ (c_P_has l dC dI cI cZ cJ _ h0 q0 y a v (by omega) (by omega)) (rk_cwV 2 htw gc_P_joinWays_19 (by decide +kernel) ⟨(Nat.le_of_ble_eq_true rfl), (Nat.le_of_ble_eq_true rfl)⟩) (⟨rk_blind, va_recv hK hP (ci := 0) rfl (q0 := 0) rfl, rk_give (rk_psub (isC := [0, 1]) hP rfl) hK (hD.sub [0, 1] rfl rfl)⟩) rfl rfl hl.1 rfl (lv_room (Nat.le_of_ble_eq_true rfl)) d_P_joinWays_19 ⟨(Nat.le_of_ble_eq_true rfl), (Nat.le_of_ble_eq_true rfl)⟩) hP hD hS hA [0, 1] [] rfl rfl rfl (by decide) (fun x5 u5 H locs hp hP hD hS => ?_)
              subst hp
              have hP : va_P (dC, dI) classes [(h0, .inr (0, [.ref q0])), (q0, .inl (cI, 32, .inl y))] H := hP
              have hD : va_D _ [(h0, .inr (0, [.ref q0])), (q0, .inl (cI, 32, .inl y))] := hD
              refine lv_if_eq (tgt := 40) hx hb d_P_joinWays_22 (by decide) (fun hc3 => ?_) (fun hc3 => ?_)
              · refine lv_iinc (k := 0) (v := nI (a + 1)) (lv' := [(2, .int (nI (a + 1))), (1, .int (nI v)), (0, .ref h0)]) hx hb d_P_joinWays_40 hl rfl (nI_1 a) (by decide) rfl (fun ls hl => ?_)
                refine lv_goto (tgt := 10) hx hb d_P_joinWays_43 (by decide) ?_
                exact ih2 (a + 1) (by omega) (by omega) y (rk_j_N hy0 (by omega) (by omega) (zI_0.mp hc3)) ls H locs hl hP hD hS
              · refine lv_aload_n hx hb d_P_joinWays_25 rfl (lv_at hl 2 rfl) ?_
                refine va_get (D := (dC, dI)) (ci := 0) (v := .ref q0) (C := R_P) (T := F_P) (N := 1) hx hb htw u_P hown hK hP 0 rfl rfl 0 (by decide) (htw _ l_P_9) (fun _ h9 => h9) rfl d_P_joinWays_26 ?_
                refine lv_iload_n hx hb d_P_joinWays_29 rfl (lv_at hl 0 rfl) ?_
                refine lv_dup2_11 hx hb d_P_joinWays_30 rfl rfl ?_
                refine va_iald hx hb hK hP 1 0 rfl rfl (vp_in_nI (n := a) (show a < 32 by omega) (by decide)) d_P_joinWays_31 ?_
                refine rk_top (y := y a) (congrArg y (nI_clamp (show a < 2 ^ 31 by omega))) ?_
                refine lv_aload_n hx hb d_P_joinWays_32 rfl (lv_at hl 2 rfl) ?_
                refine va_get (D := (dC, dI)) (ci := 0) (v := .ref q0) (C := R_P) (T := F_P) (N := 1) hx hb htw u_P hown hK hP 0 rfl rfl 0 (by decide) (htw _ l_P_9) (fun _ h9 => h9) rfl d_P_joinWays_33 ?_
                refine lv_iload_n hx hb d_P_joinWays_36 rfl (lv_at hl 1 rfl) ?_
                refine va_iald hx hb hK hP 1 0 rfl rfl (vp_in_nI (n := v) (show v < 32 by omega) (by decide)) d_P_joinWays_37 ?_
                refine rk_top (y := y v) (congrArg y (nI_clamp (show v < 2 ^ 31 by omega))) ?_
                refine lv_ior hx hb d_P_joinWays_38 ?_
                refine va_iast hx hb hK hP hD hS 1 0 rfl rfl (vp_in_nI (n := a) (show a < 32 by omega) (by decide)) d_P_joinWays_39 (fun H locs hP hD hS => ?_)
                rw [nI_clamp (show a < 2 ^ 31 by omega)] at hP hD
                have hP : va_P (dC, dI) classes [(h0, .inr (0, [.ref q0])), (q0, .inl (cI, 32, .inl (upd y a ((y a) ||| (y v)))))] H := hP
                have hD : va_D _ [(h0, .inr (0, [.ref q0])), (q0, .inl (cI, 32, .inl (upd y a ((y a) ||| (y v)))))] := hD
                refine lv_iinc (k := 0) (v := nI (a + 1)) (lv' := [(2, .int (nI (a + 1))), (1, .int (nI v)), (0, .ref h0)]) hx hb d_P_joinWays_40 hl rfl (nI_1 a) (by decide) rfl (fun ls hl => ?_)
                refine lv_goto (tgt := 10) hx hb d_P_joinWays_43 (by decide) ?_
                exact ih2 (a + 1) (by omega) (by omega) _ (rk_j_R hy0 (by omega) (by omega) (zI_n.mp hc3)) ls H locs hl hP hD hS
        exact lp2 33 0 (by omega) (by omega) x hx0 ls _ _ hl hP hD hS
  exact lp 33 0 (by omega) (by omega) r0 hR ls _ _ hl hP hD hS
set_option maxHeartbeats 4000000 in
set_option maxRecDepth 100000 in
theorem c_P_oneStepFrom (l : Launch) (dC : Nat → ClassId) (dI : Nat → Nat → Nat) (cI cZ cJ : ClassId) (sz : Nat) (h0 q0 : Nat) (r0 : Nat → Int32) (f0 : Nat → Bool) (hR : rk_R r0 f0) (vs : Int32) : Met l y_P_oneStepFrom (.code y_P_oneStepFrom b_P_oneStepFrom 4 (some .int) :: WT) { frames := 1, cells := 0, slots := 0, locals := 21 } (va_Pc [.ref h0, .int vs] (rk_pre (dC, dI) [(cI, .int), (cZ, .boolean), (cJ, .long)] sz [(h0, .inr (0, [.ref q0])), (q0, .inl (cI, 32, .inl r0))])) (va_Qi (fun (r : Int32) (u : Unit) => ∀ b, b < 32 → bt r b = rk_any (fun v => bt vs v && f0 (32 * v + b)) 32) (fun _ s9 => rk_at (dC, dI) [(cI, .int), (cZ, .boolean), (cJ, .long)] (va_A [(h0, .inr (0, [.ref q0])), (q0, .inl (cI, 32, .inl r0))] sz) [(h0, .inr (0, [.ref q0])), (q0, .inl (cI, 32, .inl r0))] s9) (va_A [(h0, .inr (0, [.ref q0])), (q0, .inl (cI, 32, .inl r0))] sz)) 0 0 (va_A [(h0, .inr (0, [.ref q0])), (q0, .inl (cI, 32, .inl r0))] sz) := by
  refine rk_body (by decide) (Nat.le_of_ble_eq_true rfl) ?_
  intro p e s m below meth c hx hb hml hr htw hown hlocks hin hsz hP hK hD hA hS ls hl
  have hown : s.vm.findClass R_P = some m.cls := hown
  have hl : lv_has ls 4 [(0, .ref h0), (1, .int vs)] := hl
  refine lv_iconst (v := nI 0) hx hb d_P_oneStepFrom_0 (by decide) ?_
  refine lv_istore_n (lv' := [(2, .int (nI 0)), (0, .ref h0), (1, .int vs)]) hx hb d_P_oneStepFrom_1 rfl hl (by decide) rfl (fun ls hl => ?_)
  refine lv_iconst (v := nI 0) hx hb d_P_oneStepFrom_2 (by decide) ?_
  refine lv_istore_n (lv' := [(3, .int (nI 0)), (2, .int (nI 0)), (0, .ref h0), (1, .int vs)]) hx hb d_P_oneStepFrom_3 rfl hl (by decide) rfl (fun ls hl => ?_)
  have lp : ∀ (kf : Nat) (i : Nat), 32 - i < kf → i ≤ 32 → ∀ x : Int32, (∀ b, b < 32 → bt x b = rk_any (fun v => bt vs v && f0 (32 * v + b)) i) → ∀ (ls : Array Slot) (H : Heap) (locs : List Loc), lv_has ls 4 [(3, .int (nI i)), (2, .int x), (0, .ref h0), (1, .int vs)] → va_P (dC, dI) classes [(h0, .inr (0, [.ref q0])), (q0, .inl (cI, 32, .inl r0))] H → va_D (va_A [(h0, .inr (0, [.ref q0])), (q0, .inl (cI, 32, .inl r0))] sz) [(h0, .inr (0, [.ref q0])), (q0, .inl (cI, 32, .inl r0))] → va_S (va_A [(h0, .inr (0, [.ref q0])), (q0, .inl (cI, 32, .inl r0))] sz) s.heap H locs → W p l e { frames := 1, cells := 0, slots := 0, locals := 21 } s m ([.ref h0, .int vs]).toArray below meth c H locs 0 0 (MQ below (va_Qi (fun (r : Int32) (u : Unit) => ∀ b, b < 32 → bt r b = rk_any (fun v => bt vs v && f0 (32 * v + b)) 32) (fun _ s9 => rk_at (dC, dI) [(cI, .int), (cZ, .boolean), (cJ, .long)] (va_A [(h0, .inr (0, [.ref q0])), (q0, .inl (cI, 32, .inl r0))] sz) [(h0, .inr (0, [.ref q0])), (q0, .inl (cI, 32, .inl r0))] s9) (va_A [(h0, .inr (0, [.ref q0])), (q0, .inl (cI, 32, .inl r0))] sz)) ([.ref h0, .int vs]).toArray s 0 0 (va_A [(h0, .inr (0, [.ref q0])), (q0, .inl (cI, 32, .inl r0))] sz)) (F0 m 4 ls []) := by
    intro kf
    induction kf with
    | zero => intro i hk hi x hx0; exact absurd hk (by omega)
    | succ kf ih =>
      intro i hk hi x hx0 ls H locs hl hP hD hS
      refine lv_iload_n hx hb d_P_oneStepFrom_4 rfl (lv_at hl 0 rfl) ?_
      refine lv_bipush (v := nI 32) hx hb d_P_oneStepFrom_5 (by decide) ?_
      refine lv_icmp_ge (tgt := 33) hx hb d_P_oneStepFrom_7 (by decide) (fun hc => ?_) (fun hc => ?_)
      · have hc := (nI_leI (by omega) (by omega)).mp hc
        refine lv_iload_n hx hb d_P_oneStepFrom_33 rfl (lv_at hl 1 rfl) ?_
        exact rk_iret (()) hx hb hr hlocks (by rw [show i = 32 by omega] at hx0; exact hx0) rfl hP hK hD hS d_P_oneStepFrom_34
      · have hc := rk_gt (by omega) (by omega) hc
        refine lv_iload_n hx hb d_P_oneStepFrom_10 rfl (lv_at hl 3 rfl) ?_
        refine lv_iload_n hx hb d_P_oneStepFrom_11 rfl (lv_at hl 0 rfl) ?_
        refine rk_backi (wc := []) (wr := [(h0, .inr (0, [.ref q0])), (q0, .inl (cI, 32, .inl r0))]) (va_runS (As := [.int vs, .int (nI i)]) (rest := []) ⟨hx, hb, hml, hown, htw⟩ (c_P_hasBit l dC dI cI cZ cJ _ vs i (by omega)) (rk_cwS 2 htw gc_P_oneStepFrom_12 (by decide +kernel) ⟨(Nat.le_of_ble_eq_true rfl), (Nat.le_of_ble_eq_true rfl)⟩) (⟨rk_blind, rk_give (rk_psub (isC := []) hP rfl) hK (hD.sub [] rfl rfl)⟩) rfl rfl hl.1 rfl (lv_room (Nat.le_of_ble_eq_true rfl)) d_P_oneStepFrom_12 ⟨(Nat.le_of_ble_eq_true rfl), (Nat.le_of_ble_eq_true rfl)⟩) hP hD hS hA [] [0, 1] rfl rfl rfl (by decide) (fun x5 u5 H locs hp hP hD hS => ?_)
        subst hp
        have hP : va_P (dC, dI) classes [(h0, .inr (0, [.ref q0])), (q0, .inl (cI, 32, .inl r0))] H := hP
        have hD : va_D _ [(h0, .inr (0, [.ref q0])), (q0, .inl (cI, 32, .inl r0))] := hD
        refine lv_if_eq (tgt := 27) hx hb d_P_oneStepFrom_15 (by decide) (fun hc3 => ?_) (fun hc3 => ?_)
        · refine lv_iinc (k := 0) (v := nI (i + 1)) (lv' := [(3, .int (nI (i + 1))), (2, .int x), (0, .ref h0), (1, .int vs)]) hx hb d_P_oneStepFrom_27 hl rfl (nI_1 i) (by decide) rfl (fun ls hl => ?_)
          refine lv_goto (tgt := 4) hx hb d_P_oneStepFrom_30 (by decide) ?_
          exact ih (i + 1) (by omega) (by omega) x (fun b hb9 => by rw [rk_any_s, hx0 b hb9, zI_0.mp hc3, Bool.false_and, Bool.or_false]) ls H locs hl hP hD hS
        · refine lv_iload_n hx hb d_P_oneStepFrom_18 rfl (lv_at hl 1 rfl) ?_
          refine lv_aload_n hx hb d_P_oneStepFrom_19 rfl (lv_at hl 2 rfl) ?_
          refine va_get (D := (dC, dI)) (ci := 0) (v := .ref q0) (C := R_P) (T := F_P) (N := 1) hx hb htw u_P hown hK hP 0 rfl rfl 0 (by decide) (htw _ l_P_9) (fun _ h9 => h9) rfl d_P_oneStepFrom_20 ?_
          refine lv_iload_n hx hb d_P_oneStepFrom_23 rfl (lv_at hl 0 rfl) ?_
          refine va_iald hx hb hK hP 1 0 rfl rfl (vp_in_nI (n := i) (show i < 32 by omega) (by decide)) d_P_oneStepFrom_24 ?_
          refine rk_top (y := r0 i) (congrArg r0 (nI_clamp (show i < 2 ^ 31 by omega))) ?_
          refine lv_ior hx hb d_P_oneStepFrom_25 ?_
          refine lv_istore_n (lv' := [(2, .int (x ||| (r0 i))), (3, .int (nI i)), (0, .ref h0), (1, .int vs)]) hx hb d_P_oneStepFrom_26 rfl hl (by decide) rfl (fun ls hl => ?_)
          refine lv_iinc (k := 1) (v := nI (i + 1)) (lv' := [(3, .int (nI (i + 1))), (2, .int (x ||| (r0 i))), (0, .ref h0), (1, .int vs)]) hx hb d_P_oneStepFrom_27 hl rfl (nI_1 i) (by decide) rfl (fun ls hl => ?_)
          refine lv_goto (tgt := 4) hx hb d_P_oneStepFrom_30 (by decide) ?_
          exact ih (i + 1) (by omega) (by omega) _ (fun b hb9 => by rw [b_or, rk_any_s, hx0 b hb9, zI_n.mp hc3, Bool.true_and, hR i (by omega) b hb9]) ls H locs hl hP hD hS
  exact lp 33 0 (by omega) (by omega) (nI 0) (fun b hb9 => b_0 b) ls _ _ hl hP hD hS
set_option maxHeartbeats 4000000 in
set_option maxRecDepth 100000 in
theorem c_P_shortestWay (l : Launch) (dC : Nat → ClassId) (dI : Nat → Nat → Nat) (cI cZ cJ : ClassId) (sz : Nat) (h0 q0 : Nat) (r0 : Nat → Int32) (f0 : Nat → Bool) (hR : rk_R r0 f0) (a b : Nat) (ha : a < 32) (hb32 : b < 32) : Met l y_P_shortestWay (.code y_P_shortestWay b_P_shortestWay 5 (some .int) :: WT) { frames := 2, cells := 0, slots := 0, locals := 44 } (va_Pc [.ref h0, .int (nI a), .int (nI b)] (rk_pre (dC, dI) [(cI, .int), (cZ, .boolean), (cJ, .long)] sz [(h0, .inr (0, [.ref q0])), (q0, .inl (cI, 32, .inl r0))])) (va_Qi (fun (r : Int32) (u : Unit) => rk_dist f0 a b r) (fun _ s9 => rk_at (dC, dI) [(cI, .int), (cZ, .boolean), (cJ, .long)] (va_A [(h0, .inr (0, [.ref q0])), (q0, .inl (cI, 32, .inl r0))] sz) [(h0, .inr (0, [.ref q0])), (q0, .inl (cI, 32, .inl r0))] s9) (va_A [(h0, .inr (0, [.ref q0])), (q0, .inl (cI, 32, .inl r0))] sz)) 0 0 (va_A [(h0, .inr (0, [.ref q0])), (q0, .inl (cI, 32, .inl r0))] sz) := by
  refine rk_body (by decide) (Nat.le_of_ble_eq_true rfl) ?_
  intro p e s m below meth c hx hb hml hr htw hown hlocks hin hsz hP hK hD hA hS ls hl
  have hown : s.vm.findClass R_P = some m.cls := hown
  have hl : lv_has ls 5 [(0, .ref h0), (1, .int (nI a)), (2, .int (nI b))] := hl
  refine lv_aload_n hx hb d_P_shortestWay_0 rfl (lv_at hl 0 rfl) ?_
  refine va_get (D := (dC, dI)) (ci := 0) (v := .ref q0) (C := R_P) (T := F_P) (N := 1) hx hb htw u_P hown hK hP 0 rfl rfl 0 (by decide) (htw _ l_P_9) (fun _ h9 => h9) rfl d_P_shortestWay_1 ?_
  refine lv_iload_n hx hb d_P_shortestWay_4 rfl (lv_at hl 1 rfl) ?_
  refine va_iald hx hb hK hP 1 0 rfl rfl (vp_in_nI (n := a) (show a < 32 by omega) (by decide)) d_P_shortestWay_5 ?_
  refine rk_top (y := r0 a) (congrArg r0 (nI_clamp (show a < 2 ^ 31 by omega))) ?_
  refine lv_istore_n (lv' := [(3, .int (r0 a)), (0, .ref h0), (1, .int (nI a)), (2, .int (nI b))]) hx hb d_P_shortestWay_6 rfl hl (by decide) rfl (fun ls hl => ?_)
  refine lv_iconst (v := nI 1) hx hb d_P_shortestWay_7 (by decide) ?_
  refine lv_istore (lv' := [(4, .int (nI 1)), (3, .int (r0 a)), (0, .ref h0), (1, .int (nI a)), (2, .int (nI b))]) hx hb d_P_shortestWay_8 hl (by decide) rfl (fun ls hl => ?_)
  have lp : ∀ (kf : Nat) (i : Nat), 32 - i < kf → i ≤ 32 → ∀ x : Int32, (∀ b, b < 32 → bt x b = rk_w f0 a i b) → (∀ j, j < i → rk_w f0 a j b = false) → ∀ (ls : Array Slot) (H : Heap) (locs : List Loc), lv_has ls 5 [(4, .int (nI (i + 1))), (3, .int x), (0, .ref h0), (1, .int (nI a)), (2, .int (nI b))] → va_P (dC, dI) classes [(h0, .inr (0, [.ref q0])), (q0, .inl (cI, 32, .inl r0))] H → va_D (va_A [(h0, .inr (0, [.ref q0])), (q0, .inl (cI, 32, .inl r0))] sz) [(h0, .inr (0, [.ref q0])), (q0, .inl (cI, 32, .inl r0))] → va_S (va_A [(h0, .inr (0, [.ref q0])), (q0, .inl (cI, 32, .inl r0))] sz) s.heap H locs → W p l e { frames := 2, cells := 0, slots := 0, locals := 44 } s m ([.ref h0, .int (nI a), .int (nI b)]).toArray below meth c H locs 0 0 (MQ below (va_Qi (fun (r : Int32) (u : Unit) => rk_dist f0 a b r) (fun _ s9 => rk_at (dC, dI) [(cI, .int), (cZ, .boolean), (cJ, .long)] (va_A [(h0, .inr (0, [.ref q0])), (q0, .inl (cI, 32, .inl r0))] sz) [(h0, .inr (0, [.ref q0])), (q0, .inl (cI, 32, .inl r0))] s9) (va_A [(h0, .inr (0, [.ref q0])), (q0, .inl (cI, 32, .inl r0))] sz)) ([.ref h0, .int (nI a), .int (nI b)]).toArray s 0 0 (va_A [(h0, .inr (0, [.ref q0])), (q0, .inl (cI, 32, .inl r0))] sz)) (F0 m 10 ls []) := by
    intro kf
    induction kf with
    | zero => intro i hk hi x hx0 hn; exact absurd hk (by omega)
    | succ kf ih =>
      intro i hk hi x hx0 hn ls H locs hl hP hD hS
      refine lv_iload hx hb d_P_shortestWay_10 (lv_at hl 0 rfl) ?_
      refine lv_bipush (v := nI 32) hx hb d_P_shortestWay_12 (by decide) ?_
      refine lv_icmp_gt (tgt := 42) hx hb d_P_shortestWay_14 (by decide) (fun hc => ?_) (fun hc => ?_)
      · have hc := (nI_ltI (by omega) (by omega)).mp hc
        refine lv_iconst (v := -1) hx hb d_P_shortestWay_42 (by decide) ?_
        exact rk_iret (()) hx hb hr hlocks (Or.inr ⟨fun k hk9 => hn k (by omega), rfl⟩) rfl hP hK hD hS d_P_shortestWay_43
      · have hc := rk_ge (by omega) (by omega) hc
        refine lv_iload_n hx hb d_P_shortestWay_17 rfl (lv_at hl 1 rfl) ?_
        refine lv_iload_n hx hb d_P_shortestWay_18 rfl (lv_at hl 4 rfl) ?_
        refine rk_backi (wc := []) (wr := [(h0, .inr (0, [.ref q0])), (q0, .inl (cI, 32, .inl r0))]) (va_runS (As := [.int x, .int (nI b)]) (rest := []) ⟨hx, hb, hml, hown, htw⟩ (c_P_hasBit l dC dI cI cZ cJ _ x b hb32) (rk_cwS 2 htw gc_P_shortestWay_19 (by decide +kernel) ⟨(Nat.le_of_ble_eq_true rfl), (Nat.le_of_ble_eq_true rfl)⟩) (⟨rk_blind, rk_give (rk_psub (isC := []) hP rfl) hK (hD.sub [] rfl rfl)⟩) rfl rfl hl.1 rfl (lv_room (Nat.le_of_ble_eq_true rfl)) d_P_shortestWay_19 ⟨(Nat.le_of_ble_eq_true rfl), (Nat.le_of_ble_eq_true rfl)⟩) hP hD hS hA [] [0, 1] rfl rfl rfl (by decide) (fun x5 u5 H locs hp hP hD hS => ?_)
        subst hp
        have hP : va_P (dC, dI) classes [(h0, .inr (0, [.ref q0])), (q0, .inl (cI, 32, .inl r0))] H := hP
        have hD : va_D _ [(h0, .inr (0, [.ref q0])), (q0, .inl (cI, 32, .inl r0))] := hD
        refine lv_if_eq (tgt := 28) hx hb d_P_shortestWay_22 (by decide) (fun hc3 => ?_) (fun hc3 => ?_)
        · have hxb := zI_0.mp hc3
          refine lv_iload_n hx hb d_P_shortestWay_28 rfl (lv_at hl 1 rfl) ?_
          refine lv_aload_n hx hb d_P_shortestWay_29 rfl (lv_at hl 2 rfl) ?_
          refine lv_iload_n hx hb d_P_shortestWay_30 rfl (lv_at hl 1 rfl) ?_
          refine rk_backi (wc := [(h0, .inr (0, [.ref q0])), (q0, .inl (cI, 32, .inl r0))]) (wr := []) (va_runV (As := [.int x]) (rest := [.int x]) ⟨hx, hb, hml, hown, htw⟩ (c_P_oneStepFrom l dC dI cI cZ cJ _ h0 q0 r0 f0 hR x) (rk_cwV 1 htw gc_P_shortestWay_31 (by decide +kernel) ⟨(Nat.le_of_ble_eq_true rfl), (Nat.le_of_ble_eq_true rfl)⟩) (⟨rk_blind, va_recv hK hP (ci := 0) rfl (q0 := 0) rfl, rk_give (rk_psub (isC := [0, 1]) hP rfl) hK (hD.sub [0, 1] rfl rfl)⟩) rfl rfl hl.1 rfl (lv_room (Nat.le_of_ble_eq_true rfl)) d_P_shortestWay_31 ⟨(Nat.le_of_ble_eq_true rfl), (Nat.le_of_ble_eq_true rfl)⟩) hP hD hS hA [0, 1] [] rfl rfl rfl (by decide) (fun x6 u6 H locs hp6 hP hD hS => ?_)
          have hP : va_P (dC, dI) classes [(h0, .inr (0, [.ref q0])), (q0, .inl (cI, 32, .inl r0))] H := hP
          have hD : va_D _ [(h0, .inr (0, [.ref q0])), (q0, .inl (cI, 32, .inl r0))] := hD
          refine lv_ior hx hb d_P_shortestWay_34 ?_
          refine lv_istore_n (lv' := [(3, .int (x ||| x6)), (4, .int (nI (i + 1))), (0, .ref h0), (1, .int (nI a)), (2, .int (nI b))]) hx hb d_P_shortestWay_35 rfl hl (by decide) rfl (fun ls hl => ?_)
          refine lv_iinc (k := 1) (v := nI (i + 1 + 1)) (lv' := [(4, .int (nI (i + 1 + 1))), (3, .int (x ||| x6)), (0, .ref h0), (1, .int (nI a)), (2, .int (nI b))]) hx hb d_P_shortestWay_36 hl rfl (nI_1 (i + 1)) (by decide) rfl (fun ls hl => ?_)
          refine lv_goto (tgt := 10) hx hb d_P_shortestWay_39 (by decide) ?_
          exact ih (i + 1) (by omega) (by omega) _ (fun b9 hb9 => by rw [b_or, rk_w_s, hx0 b9 hb9, hp6 b9 hb9, rk_any_congr (fun v hv => by rw [hx0 v hv])]) (fun j hj => by rcases Nat.lt_or_ge j i with z | z; exact hn j z; rw [show j = i by omega, ← hx0 b hb32]; exact hxb) ls H locs hl hP hD hS
        · have hxb := zI_n.mp hc3
          refine lv_iload hx hb d_P_shortestWay_25 (lv_at hl 0 rfl) ?_
          exact rk_iret (()) hx hb hr hlocks (Or.inl ⟨i, by omega, by rw [← hx0 b hb32]; exact hxb, hn, rfl⟩) rfl hP hK hD hS d_P_shortestWay_27
  exact lp 33 0 (by omega) (by omega) (r0 a) (fun b9 hb9 => hR a ha b9 hb9) (fun j hj => by omega) ls _ _ hl hP hD hS
set_option maxHeartbeats 4000000 in
set_option maxRecDepth 100000 in
theorem c_P_loops (l : Launch) (dC : Nat → ClassId) (dI : Nat → Nat → Nat) (cI cZ cJ : ClassId) (sz : Nat) (h0 q0 : Nat) (r0 : Nat → Int32) : Met l y_P_loops (.code y_P_loops b_P_loops 3 (some .int) :: WT) { frames := 2, cells := 0, slots := 0, locals := 43 } (va_Pc [.ref h0] (rk_pre (dC, dI) [(cI, .int), (cZ, .boolean), (cJ, .long)] sz [(h0, .inr (0, [.ref q0])), (q0, .inl (cI, 32, .inl r0))])) (va_Qi (fun (r : Int32) (u : Unit) => r = nI (rk_c (fun a => bt (r0 a) a) 32)) (fun _ s9 => rk_at (dC, dI) [(cI, .int), (cZ, .boolean), (cJ, .long)] (va_A [(h0, .inr (0, [.ref q0])), (q0, .inl (cI, 32, .inl r0))] sz) [(h0, .inr (0, [.ref q0])), (q0, .inl (cI, 32, .inl r0))] s9) (va_A [(h0, .inr (0, [.ref q0])), (q0, .inl (cI, 32, .inl r0))] sz)) 0 0 (va_A [(h0, .inr (0, [.ref q0])), (q0, .inl (cI, 32, .inl r0))] sz) := by
  refine rk_body (by decide) (Nat.le_of_ble_eq_true rfl) ?_
  intro p e s m below meth c hx hb hml hr htw hown hlocks hin hsz hP hK hD hA hS ls hl
  have hown : s.vm.findClass R_P = some m.cls := hown
  have hl : lv_has ls 3 [(0, .ref h0)] := hl
  refine lv_iconst (v := nI 0) hx hb d_P_loops_0 (by decide) ?_
  refine lv_istore_n (lv' := [(1, .int (nI 0)), (0, .ref h0)]) hx hb d_P_loops_1 rfl hl (by decide) rfl (fun ls hl => ?_)
  refine lv_iconst (v := nI 0) hx hb d_P_loops_2 (by decide) ?_
  refine lv_istore_n (lv' := [(2, .int (nI 0)), (1, .int (nI 0)), (0, .ref h0)]) hx hb d_P_loops_3 rfl hl (by decide) rfl (fun ls hl => ?_)
  have lp : ∀ (kf : Nat) (i : Nat), 32 - i < kf → i ≤ 32 → ∀ (ls : Array Slot) (H : Heap) (locs : List Loc), lv_has ls 3 [(2, .int (nI i)), (1, .int (nI (rk_c (fun a => bt (r0 a) a) i))), (0, .ref h0)] → va_P (dC, dI) classes [(h0, .inr (0, [.ref q0])), (q0, .inl (cI, 32, .inl r0))] H → va_D (va_A [(h0, .inr (0, [.ref q0])), (q0, .inl (cI, 32, .inl r0))] sz) [(h0, .inr (0, [.ref q0])), (q0, .inl (cI, 32, .inl r0))] → va_S (va_A [(h0, .inr (0, [.ref q0])), (q0, .inl (cI, 32, .inl r0))] sz) s.heap H locs → W p l e { frames := 2, cells := 0, slots := 0, locals := 43 } s m ([.ref h0]).toArray below meth c H locs 0 0 (MQ below (va_Qi (fun (r : Int32) (u : Unit) => r = nI (rk_c (fun a => bt (r0 a) a) 32)) (fun _ s9 => rk_at (dC, dI) [(cI, .int), (cZ, .boolean), (cJ, .long)] (va_A [(h0, .inr (0, [.ref q0])), (q0, .inl (cI, 32, .inl r0))] sz) [(h0, .inr (0, [.ref q0])), (q0, .inl (cI, 32, .inl r0))] s9) (va_A [(h0, .inr (0, [.ref q0])), (q0, .inl (cI, 32, .inl r0))] sz)) ([.ref h0]).toArray s 0 0 (va_A [(h0, .inr (0, [.ref q0])), (q0, .inl (cI, 32, .inl r0))] sz)) (F0 m 4 ls []) := by
    intro kf
    induction kf with
    | zero => intro i hk hi; exact absurd hk (by omega)
    | succ kf ih =>
      intro i hk hi ls H locs hl hP hD hS
      refine lv_iload_n hx hb d_P_loops_4 rfl (lv_at hl 0 rfl) ?_
      refine lv_bipush (v := nI 32) hx hb d_P_loops_5 (by decide) ?_
      refine lv_icmp_ge (tgt := 28) hx hb d_P_loops_7 (by decide) (fun hc => ?_) (fun hc => ?_)
      · have hc := (nI_leI (by omega) (by omega)).mp hc
        refine lv_iload_n hx hb d_P_loops_28 rfl (lv_at hl 1 rfl) ?_
        exact rk_iret (()) hx hb hr hlocks (by rw [show i = 32 by omega]) rfl hP hK hD hS d_P_loops_29
      · have hc := rk_gt (by omega) (by omega) hc
        refine lv_aload_n hx hb d_P_loops_10 rfl (lv_at hl 2 rfl) ?_
        refine lv_iload_n hx hb d_P_loops_11 rfl (lv_at hl 0 rfl) ?_
        refine lv_iload_n hx hb d_P_loops_12 rfl (lv_at hl 0 rfl) ?_
        refine rk_backi (wc := [(h0, .inr (0, [.ref q0])), (q0, .inl (cI, 32, .inl r0))]) (wr := []) (va_runV (As := [.int (nI i), .int (nI i)]) (rest := []) ⟨hx, hb, hml, hown, htw⟩ (c_P_has l dC dI cI cZ cJ _ h0 q0 r0 i i (by omega) (by omega)) (rk_cwV 2 htw gc_P_loops_13 (by decide +kernel) ⟨(Nat.le_of_ble_eq_true rfl), (Nat.le_of_ble_eq_true rfl)⟩) (⟨rk_blind, va_recv hK hP (ci := 0) rfl (q0 := 0) rfl, rk_give (rk_psub (isC := [0, 1]) hP rfl) hK (hD.sub [0, 1] rfl rfl)⟩) rfl rfl hl.1 rfl (lv_room (Nat.le_of_ble_eq_true rfl)) d_P_loops_13 ⟨(Nat.le_of_ble_eq_true rfl), (Nat.le_of_ble_eq_true rfl)⟩) hP hD hS hA [0, 1] [] rfl rfl rfl (by decide) (fun x5 u5 H locs hp hP hD hS => ?_)
        subst hp
        have hP : va_P (dC, dI) classes [(h0, .inr (0, [.ref q0])), (q0, .inl (cI, 32, .inl r0))] H := hP
        have hD : va_D _ [(h0, .inr (0, [.ref q0])), (q0, .inl (cI, 32, .inl r0))] := hD
        refine lv_if_eq (tgt := 22) hx hb d_P_loops_16 (by decide) (fun hc3 => ?_) (fun hc3 => ?_)
        · rw [← rk_c_f (f := fun a => bt (r0 a) a) (zI_0.mp hc3)] at hl
          refine lv_iinc (k := 0) (v := nI (i + 1)) (lv' := [(2, .int (nI (i + 1))), (1, .int (nI (rk_c (fun a => bt (r0 a) a) (i + 1)))), (0, .ref h0)]) hx hb d_P_loops_22 hl rfl (nI_1 i) (by decide) rfl (fun ls hl => ?_)
          refine lv_goto (tgt := 4) hx hb d_P_loops_25 (by decide) ?_
          exact ih (i + 1) (by omega) (by omega) ls H locs hl hP hD hS
        · refine lv_iinc (k := 1) (v := nI (rk_c (fun a => bt (r0 a) a) i + 1)) (lv' := [(1, .int (nI (rk_c (fun a => bt (r0 a) a) i + 1))), (2, .int (nI i)), (0, .ref h0)]) hx hb d_P_loops_19 hl rfl (nI_1 (rk_c (fun a => bt (r0 a) a) i)) (by decide) rfl (fun ls hl => ?_)
          rw [← rk_c_t (f := fun a => bt (r0 a) a) (zI_n.mp hc3)] at hl
          refine lv_iinc (k := 1) (v := nI (i + 1)) (lv' := [(2, .int (nI (i + 1))), (1, .int (nI (rk_c (fun a => bt (r0 a) a) (i + 1)))), (0, .ref h0)]) hx hb d_P_loops_22 hl rfl (nI_1 i) (by decide) rfl (fun ls hl => ?_)
          refine lv_goto (tgt := 4) hx hb d_P_loops_25 (by decide) ?_
          exact ih (i + 1) (by omega) (by omega) ls H locs hl hP hD hS
  exact lp 33 0 (by omega) (by omega) ls _ _ hl hP hD hS
set_option maxHeartbeats 4000000 in
set_option maxRecDepth 100000 in
theorem c_P_hasLowerMate (l : Launch) (dC : Nat → ClassId) (dI : Nat → Nat → Nat) (cI cZ cJ : ClassId) (sz : Nat) (h0 q0 : Nat) (r0 : Nat → Int32) (a : Nat) (ha : a < 32) : Met l y_P_hasLowerMate (.code y_P_hasLowerMate b_P_hasLowerMate 3 (some .boolean) :: WT) { frames := 2, cells := 0, slots := 0, locals := 43 } (va_Pc [.ref h0, .int (nI a)] (rk_pre (dC, dI) [(cI, .int), (cZ, .boolean), (cJ, .long)] sz [(h0, .inr (0, [.ref q0])), (q0, .inl (cI, 32, .inl r0))])) (va_Qi (fun (r : Int32) (u : Unit) => r = zI (rk_any (fun b => bt (r0 a) b && bt (r0 b) a) a)) (fun _ s9 => rk_at (dC, dI) [(cI, .int), (cZ, .boolean), (cJ, .long)] (va_A [(h0, .inr (0, [.ref q0])), (q0, .inl (cI, 32, .inl r0))] sz) [(h0, .inr (0, [.ref q0])), (q0, .inl (cI, 32, .inl r0))] s9) (va_A [(h0, .inr (0, [.ref q0])), (q0, .inl (cI, 32, .inl r0))] sz)) 0 0 (va_A [(h0, .inr (0, [.ref q0])), (q0, .inl (cI, 32, .inl r0))] sz) := by
  refine rk_body (by decide) (Nat.le_of_ble_eq_true rfl) ?_
  intro p e s m below meth c hx hb hml hr htw hown hlocks hin hsz hP hK hD hA hS ls hl
  have hown : s.vm.findClass R_P = some m.cls := hown
  have hl : lv_has ls 3 [(0, .ref h0), (1, .int (nI a))] := hl
  refine lv_iconst (v := nI 0) hx hb d_P_hasLowerMate_0 (by decide) ?_
  refine lv_istore_n (lv' := [(2, .int (nI 0)), (0, .ref h0), (1, .int (nI a))]) hx hb d_P_hasLowerMate_1 rfl hl (by decide) rfl (fun ls hl => ?_)
  have lp : ∀ (kf : Nat) (i : Nat), a - i < kf → i ≤ a → rk_any (fun b => bt (r0 a) b && bt (r0 b) a) i = false → ∀ (ls : Array Slot) (H : Heap) (locs : List Loc), lv_has ls 3 [(2, .int (nI i)), (0, .ref h0), (1, .int (nI a))] → va_P (dC, dI) classes [(h0, .inr (0, [.ref q0])), (q0, .inl (cI, 32, .inl r0))] H → va_D (va_A [(h0, .inr (0, [.ref q0])), (q0, .inl (cI, 32, .inl r0))] sz) [(h0, .inr (0, [.ref q0])), (q0, .inl (cI, 32, .inl r0))] → va_S (va_A [(h0, .inr (0, [.ref q0])), (q0, .inl (cI, 32, .inl r0))] sz) s.heap H locs → W p l e { frames := 2, cells := 0, slots := 0, locals := 43 } s m ([.ref h0, .int (nI a)]).toArray below meth c H locs 0 0 (MQ below (va_Qi (fun (r : Int32) (u : Unit) => r = zI (rk_any (fun b => bt (r0 a) b && bt (r0 b) a) a)) (fun _ s9 => rk_at (dC, dI) [(cI, .int), (cZ, .boolean), (cJ, .long)] (va_A [(h0, .inr (0, [.ref q0])), (q0, .inl (cI, 32, .inl r0))] sz) [(h0, .inr (0, [.ref q0])), (q0, .inl (cI, 32, .inl r0))] s9) (va_A [(h0, .inr (0, [.ref q0])), (q0, .inl (cI, 32, .inl r0))] sz)) ([.ref h0, .int (nI a)]).toArray s 0 0 (va_A [(h0, .inr (0, [.ref q0])), (q0, .inl (cI, 32, .inl r0))] sz)) (F0 m 2 ls []) := by
    intro kf
    induction kf with
    | zero => intro i hk hi hn; exact absurd hk (by omega)
    | succ kf ih =>
      intro i hk hi hn ls H locs hl hP hD hS
      refine lv_iload_n hx hb d_P_hasLowerMate_2 rfl (lv_at hl 0 rfl) ?_
      refine lv_iload_n hx hb d_P_hasLowerMate_3 rfl (lv_at hl 2 rfl) ?_
      refine lv_icmp_ge (tgt := 33) hx hb d_P_hasLowerMate_4 (by decide) (fun hc => ?_) (fun hc => ?_)
      · have hc := (nI_leI (by omega) (by omega)).mp hc
        refine lv_iconst (v := nI 0) hx hb d_P_hasLowerMate_33 (by decide) ?_
        refine rk_top (y := zI (rk_any (fun b => bt (r0 a) b && bt (r0 b) a) a)) (by rw [show i = a by omega] at hn; rw [hn]; rfl) ?_
        exact rk_zret (()) hx hb hr hlocks (rfl) rfl hP hK hD hS d_P_hasLowerMate_34
      · have hc := rk_gt (by omega) (by omega) hc
        refine lv_aload_n hx hb d_P_hasLowerMate_7 rfl (lv_at hl 1 rfl) ?_
        refine lv_iload_n hx hb d_P_hasLowerMate_8 rfl (lv_at hl 2 rfl) ?_
        refine lv_iload_n hx hb d_P_hasLowerMate_9 rfl (lv_at hl 0 rfl) ?_
        refine rk_backi (wc := [(h0, .inr (0, [.ref q0])), (q0, .inl (cI, 32, .inl r0))]) (wr := []) (va_runV (As := [.int (nI a), .int (nI i)]) (rest := []) ⟨hx, hb, hml, hown, htw⟩ (c_P_has l dC dI cI cZ cJ _ h0 q0 r0 a i (by omega) (by omega)) (rk_cwV 2 htw gc_P_hasLowerMate_10 (by decide +kernel) ⟨(Nat.le_of_ble_eq_true rfl), (Nat.le_of_ble_eq_true rfl)⟩) (⟨rk_blind, va_recv hK hP (ci := 0) rfl (q0 := 0) rfl, rk_give (rk_psub (isC := [0, 1]) hP rfl) hK (hD.sub [0, 1] rfl rfl)⟩) rfl rfl hl.1 rfl (lv_room (Nat.le_of_ble_eq_true rfl)) d_P_hasLowerMate_10 ⟨(Nat.le_of_ble_eq_true rfl), (Nat.le_of_ble_eq_true rfl)⟩) hP hD hS hA [0, 1] [] rfl rfl rfl (by decide) (fun x5 u5 H locs hp hP hD hS => ?_)
        subst hp
        have hP : va_P (dC, dI) classes [(h0, .inr (0, [.ref q0])), (q0, .inl (cI, 32, .inl r0))] H := hP
        have hD : va_D _ [(h0, .inr (0, [.ref q0])), (q0, .inl (cI, 32, .inl r0))] := hD
        refine lv_if_eq (tgt := 27) hx hb d_P_hasLowerMate_13 (by decide) (fun hc3 => ?_) (fun hc3 => ?_)
        · refine lv_iinc (k := 0) (v := nI (i + 1)) (lv' := [(2, .int (nI (i + 1))), (0, .ref h0), (1, .int (nI a))]) hx hb d_P_hasLowerMate_27 hl rfl (nI_1 i) (by decide) rfl (fun ls hl => ?_)
          refine lv_goto (tgt := 2) hx hb d_P_hasLowerMate_30 (by decide) ?_
          exact ih (i + 1) (by omega) (by omega) (by rw [rk_any_s, hn, zI_0.mp hc3]; rfl) ls H locs hl hP hD hS
        · refine lv_aload_n hx hb d_P_hasLowerMate_16 rfl (lv_at hl 1 rfl) ?_
          refine lv_iload_n hx hb d_P_hasLowerMate_17 rfl (lv_at hl 0 rfl) ?_
          refine lv_iload_n hx hb d_P_hasLowerMate_18 rfl (lv_at hl 2 rfl) ?_
          refine rk_backi (wc := [(h0, .inr (0, [.ref q0])), (q0, .inl (cI, 32, .inl r0))]) (wr := []) (va_runV (As := [.int (nI i), .int (nI a)]) (rest := []) ⟨hx, hb, hml, hown, htw⟩ (c_P_has l dC dI cI cZ cJ _ h0 q0 r0 i a (by omega) (by omega)) (rk_cwV 2 htw gc_P_hasLowerMate_19 (by decide +kernel) ⟨(Nat.le_of_ble_eq_true rfl), (Nat.le_of_ble_eq_true rfl)⟩) (⟨rk_blind, va_recv hK hP (ci := 0) rfl (q0 := 0) rfl, rk_give (rk_psub (isC := [0, 1]) hP rfl) hK (hD.sub [0, 1] rfl rfl)⟩) rfl rfl hl.1 rfl (lv_room (Nat.le_of_ble_eq_true rfl)) d_P_hasLowerMate_19 ⟨(Nat.le_of_ble_eq_true rfl), (Nat.le_of_ble_eq_true rfl)⟩) hP hD hS hA [0, 1] [] rfl rfl rfl (by decide) (fun x6 u6 H locs hp hP hD hS => ?_)
          subst hp
          have hP : va_P (dC, dI) classes [(h0, .inr (0, [.ref q0])), (q0, .inl (cI, 32, .inl r0))] H := hP
          have hD : va_D _ [(h0, .inr (0, [.ref q0])), (q0, .inl (cI, 32, .inl r0))] := hD
          refine lv_if_eq (tgt := 27) hx hb d_P_hasLowerMate_22 (by decide) (fun hc4 => ?_) (fun hc4 => ?_)
          · refine lv_iinc (k := 0) (v := nI (i + 1)) (lv' := [(2, .int (nI (i + 1))), (0, .ref h0), (1, .int (nI a))]) hx hb d_P_hasLowerMate_27 hl rfl (nI_1 i) (by decide) rfl (fun ls hl => ?_)
            refine lv_goto (tgt := 2) hx hb d_P_hasLowerMate_30 (by decide) ?_
            exact ih (i + 1) (by omega) (by omega) (by rw [rk_any_s, hn, zI_0.mp hc4, Bool.and_false]; rfl) ls H locs hl hP hD hS
          · refine lv_iconst (v := nI 1) hx hb d_P_hasLowerMate_25 (by decide) ?_
            refine rk_top (y := zI (rk_any (fun b => bt (r0 a) b && bt (r0 b) a) a)) (by rw [rk_any_iff.mpr ⟨i, by omega, by rw [zI_n.mp hc3, zI_n.mp hc4]; rfl⟩]; rfl) ?_
            exact rk_zret (()) hx hb hr hlocks (rfl) rfl hP hK hD hS d_P_hasLowerMate_26
  exact lp 33 0 (by omega) (by omega) rfl ls _ _ hl hP hD hS
set_option maxHeartbeats 4000000 in
set_option maxRecDepth 100000 in
theorem c_P_circles (l : Launch) (dC : Nat → ClassId) (dI : Nat → Nat → Nat) (cI cZ cJ : ClassId) (sz : Nat) (h0 q0 : Nat) (r0 : Nat → Int32) : Met l y_P_circles (.code y_P_circles b_P_circles 3 (some .int) :: WT) { frames := 3, cells := 0, slots := 0, locals := 65 } (va_Pc [.ref h0] (rk_pre (dC, dI) [(cI, .int), (cZ, .boolean), (cJ, .long)] sz [(h0, .inr (0, [.ref q0])), (q0, .inl (cI, 32, .inl r0))])) (va_Qi (fun (r : Int32) (u : Unit) => r = nI (rk_c (fun a => bt (r0 a) a && !rk_any (fun b => bt (r0 a) b && bt (r0 b) a) a) 32)) (fun _ s9 => rk_at (dC, dI) [(cI, .int), (cZ, .boolean), (cJ, .long)] (va_A [(h0, .inr (0, [.ref q0])), (q0, .inl (cI, 32, .inl r0))] sz) [(h0, .inr (0, [.ref q0])), (q0, .inl (cI, 32, .inl r0))] s9) (va_A [(h0, .inr (0, [.ref q0])), (q0, .inl (cI, 32, .inl r0))] sz)) 0 0 (va_A [(h0, .inr (0, [.ref q0])), (q0, .inl (cI, 32, .inl r0))] sz) := by
  refine rk_body (by decide) (Nat.le_of_ble_eq_true rfl) ?_
  intro p e s m below meth c hx hb hml hr htw hown hlocks hin hsz hP hK hD hA hS ls hl
  have hown : s.vm.findClass R_P = some m.cls := hown
  have hl : lv_has ls 3 [(0, .ref h0)] := hl
  refine lv_iconst (v := nI 0) hx hb d_P_circles_0 (by decide) ?_
  refine lv_istore_n (lv' := [(1, .int (nI 0)), (0, .ref h0)]) hx hb d_P_circles_1 rfl hl (by decide) rfl (fun ls hl => ?_)
  refine lv_iconst (v := nI 0) hx hb d_P_circles_2 (by decide) ?_
  refine lv_istore_n (lv' := [(2, .int (nI 0)), (1, .int (nI 0)), (0, .ref h0)]) hx hb d_P_circles_3 rfl hl (by decide) rfl (fun ls hl => ?_)
  have lp : ∀ (kf : Nat) (i : Nat), 32 - i < kf → i ≤ 32 → ∀ (ls : Array Slot) (H : Heap) (locs : List Loc), lv_has ls 3 [(2, .int (nI i)), (1, .int (nI (rk_c (fun a => bt (r0 a) a && !rk_any (fun b => bt (r0 a) b && bt (r0 b) a) a) i))), (0, .ref h0)] → va_P (dC, dI) classes [(h0, .inr (0, [.ref q0])), (q0, .inl (cI, 32, .inl r0))] H → va_D (va_A [(h0, .inr (0, [.ref q0])), (q0, .inl (cI, 32, .inl r0))] sz) [(h0, .inr (0, [.ref q0])), (q0, .inl (cI, 32, .inl r0))] → va_S (va_A [(h0, .inr (0, [.ref q0])), (q0, .inl (cI, 32, .inl r0))] sz) s.heap H locs → W p l e { frames := 3, cells := 0, slots := 0, locals := 65 } s m ([.ref h0]).toArray below meth c H locs 0 0 (MQ below (va_Qi (fun (r : Int32) (u : Unit) => r = nI (rk_c (fun a => bt (r0 a) a && !rk_any (fun b => bt (r0 a) b && bt (r0 b) a) a) 32)) (fun _ s9 => rk_at (dC, dI) [(cI, .int), (cZ, .boolean), (cJ, .long)] (va_A [(h0, .inr (0, [.ref q0])), (q0, .inl (cI, 32, .inl r0))] sz) [(h0, .inr (0, [.ref q0])), (q0, .inl (cI, 32, .inl r0))] s9) (va_A [(h0, .inr (0, [.ref q0])), (q0, .inl (cI, 32, .inl r0))] sz)) ([.ref h0]).toArray s 0 0 (va_A [(h0, .inr (0, [.ref q0])), (q0, .inl (cI, 32, .inl r0))] sz)) (F0 m 4 ls []) := by
    intro kf
    induction kf with
    | zero => intro i hk hi; exact absurd hk (by omega)
    | succ kf ih =>
      intro i hk hi ls H locs hl hP hD hS
      refine lv_iload_n hx hb d_P_circles_4 rfl (lv_at hl 0 rfl) ?_
      refine lv_bipush (v := nI 32) hx hb d_P_circles_5 (by decide) ?_
      refine lv_icmp_ge (tgt := 36) hx hb d_P_circles_7 (by decide) (fun hc => ?_) (fun hc => ?_)
      · have hc := (nI_leI (by omega) (by omega)).mp hc
        refine lv_iload_n hx hb d_P_circles_36 rfl (lv_at hl 1 rfl) ?_
        exact rk_iret (()) hx hb hr hlocks (by rw [show i = 32 by omega]) rfl hP hK hD hS d_P_circles_37
      · have hc := rk_gt (by omega) (by omega) hc
        refine lv_aload_n hx hb d_P_circles_10 rfl (lv_at hl 2 rfl) ?_
        refine lv_iload_n hx hb d_P_circles_11 rfl (lv_at hl 0 rfl) ?_
        refine lv_iload_n hx hb d_P_circles_12 rfl (lv_at hl 0 rfl) ?_
        refine rk_backi (wc := [(h0, .inr (0, [.ref q0])), (q0, .inl (cI, 32, .inl r0))]) (wr := []) (va_runV (As := [.int (nI i), .int (nI i)]) (rest := []) ⟨hx, hb, hml, hown, htw⟩ (c_P_has l dC dI cI cZ cJ _ h0 q0 r0 i i (by omega) (by omega)) (rk_cwV 2 htw gc_P_circles_13 (by decide +kernel) ⟨(Nat.le_of_ble_eq_true rfl), (Nat.le_of_ble_eq_true rfl)⟩) (⟨rk_blind, va_recv hK hP (ci := 0) rfl (q0 := 0) rfl, rk_give (rk_psub (isC := [0, 1]) hP rfl) hK (hD.sub [0, 1] rfl rfl)⟩) rfl rfl hl.1 rfl (lv_room (Nat.le_of_ble_eq_true rfl)) d_P_circles_13 ⟨(Nat.le_of_ble_eq_true rfl), (Nat.le_of_ble_eq_true rfl)⟩) hP hD hS hA [0, 1] [] rfl rfl rfl (by decide) (fun x5 u5 H locs hp hP hD hS => ?_)
        subst hp
        have hP : va_P (dC, dI) classes [(h0, .inr (0, [.ref q0])), (q0, .inl (cI, 32, .inl r0))] H := hP
        have hD : va_D _ [(h0, .inr (0, [.ref q0])), (q0, .inl (cI, 32, .inl r0))] := hD
        refine lv_if_eq (tgt := 30) hx hb d_P_circles_16 (by decide) (fun hc3 => ?_) (fun hc3 => ?_)
        · rw [← rk_c_f (f := (fun a => bt (r0 a) a && !rk_any (fun b => bt (r0 a) b && bt (r0 b) a) a)) (n := i) (by show (bt (r0 i) i && _) = false; rw [zI_0.mp hc3]; rfl)] at hl
          refine lv_iinc (k := 0) (v := nI (i + 1)) (lv' := [(2, .int (nI (i + 1))), (1, .int (nI (rk_c (fun a => bt (r0 a) a && !rk_any (fun b => bt (r0 a) b && bt (r0 b) a) a) (i + 1)))), (0, .ref h0)]) hx hb d_P_circles_30 hl rfl (nI_1 i) (by decide) rfl (fun ls hl => ?_)
          refine lv_goto (tgt := 4) hx hb d_P_circles_33 (by decide) ?_
          exact ih (i + 1) (by omega) (by omega) ls H locs hl hP hD hS
        · refine lv_aload_n hx hb d_P_circles_19 rfl (lv_at hl 2 rfl) ?_
          refine lv_iload_n hx hb d_P_circles_20 rfl (lv_at hl 0 rfl) ?_
          refine rk_backi (wc := [(h0, .inr (0, [.ref q0])), (q0, .inl (cI, 32, .inl r0))]) (wr := []) (va_runV (As := [.int (nI i)]) (rest := []) ⟨hx, hb, hml, hown, htw⟩ (c_P_hasLowerMate l dC dI cI cZ cJ _ h0 q0 r0 i (by omega)) (rk_cwV 1 htw gc_P_circles_21 (by decide +kernel) ⟨(Nat.le_of_ble_eq_true rfl), (Nat.le_of_ble_eq_true rfl)⟩) (⟨rk_blind, va_recv hK hP (ci := 0) rfl (q0 := 0) rfl, rk_give (rk_psub (isC := [0, 1]) hP rfl) hK (hD.sub [0, 1] rfl rfl)⟩) rfl rfl hl.1 rfl (lv_room (Nat.le_of_ble_eq_true rfl)) d_P_circles_21 ⟨(Nat.le_of_ble_eq_true rfl), (Nat.le_of_ble_eq_true rfl)⟩) hP hD hS hA [0, 1] [] rfl rfl rfl (by decide) (fun x6 u6 H locs hp hP hD hS => ?_)
          subst hp
          have hP : va_P (dC, dI) classes [(h0, .inr (0, [.ref q0])), (q0, .inl (cI, 32, .inl r0))] H := hP
          have hD : va_D _ [(h0, .inr (0, [.ref q0])), (q0, .inl (cI, 32, .inl r0))] := hD
          refine lv_if_ne (tgt := 30) hx hb d_P_circles_24 (by decide) (fun hc4 => ?_) (fun hc4 => ?_)
          · rw [← rk_c_f (f := (fun a => bt (r0 a) a && !rk_any (fun b => bt (r0 a) b && bt (r0 b) a) a)) (n := i) (by show (_ && !(rk_any (fun b => bt (r0 i) b && bt (r0 b) i) i)) = false; rw [zI_n.mp hc4]; exact Bool.and_false _)] at hl
            refine lv_iinc (k := 0) (v := nI (i + 1)) (lv' := [(2, .int (nI (i + 1))), (1, .int (nI (rk_c (fun a => bt (r0 a) a && !rk_any (fun b => bt (r0 a) b && bt (r0 b) a) a) (i + 1)))), (0, .ref h0)]) hx hb d_P_circles_30 hl rfl (nI_1 i) (by decide) rfl (fun ls hl => ?_)
            refine lv_goto (tgt := 4) hx hb d_P_circles_33 (by decide) ?_
            exact ih (i + 1) (by omega) (by omega) ls H locs hl hP hD hS
          · refine lv_iinc (k := 1) (v := nI (rk_c (fun a => bt (r0 a) a && !rk_any (fun b => bt (r0 a) b && bt (r0 b) a) a) i + 1)) (lv' := [(1, .int (nI (rk_c (fun a => bt (r0 a) a && !rk_any (fun b => bt (r0 a) b && bt (r0 b) a) a) i + 1))), (2, .int (nI i)), (0, .ref h0)]) hx hb d_P_circles_27 hl rfl (nI_1 (rk_c (fun a => bt (r0 a) a && !rk_any (fun b => bt (r0 a) b && bt (r0 b) a) a) i)) (by decide) rfl (fun ls hl => ?_)
            rw [← rk_c_t (f := (fun a => bt (r0 a) a && !rk_any (fun b => bt (r0 a) b && bt (r0 b) a) a)) (n := i) (by show (bt (r0 i) i && !(rk_any (fun b => bt (r0 i) b && bt (r0 b) i) i)) = true; rw [zI_n.mp hc3, zI_0.mp hc4]; rfl)] at hl
            refine lv_iinc (k := 1) (v := nI (i + 1)) (lv' := [(2, .int (nI (i + 1))), (1, .int (nI (rk_c (fun a => bt (r0 a) a && !rk_any (fun b => bt (r0 a) b && bt (r0 b) a) a) (i + 1)))), (0, .ref h0)]) hx hb d_P_circles_30 hl rfl (nI_1 i) (by decide) rfl (fun ls hl => ?_)
            refine lv_goto (tgt := 4) hx hb d_P_circles_33 (by decide) ?_
            exact ih (i + 1) (by omega) (by omega) ls H locs hl hP hD hS
  exact lp 33 0 (by omega) (by omega) ls _ _ hl hP hD hS
end
section
theorem d_M_init_0 : decode b_M_init 0 = .ok (.aload_n 0, 1) := by decide +kernel
theorem d_M_init_1 : decode b_M_init 1 = .ok (.invokespecial 1, 3) := by decide +kernel
theorem d_M_init_4 : decode b_M_init 4 = .ok (.aload_n 0, 1) := by decide +kernel
theorem d_M_init_5 : decode b_M_init 5 = .ok (.sipush 1024, 3) := by decide +kernel
theorem d_M_init_8 : decode b_M_init 8 = .ok (.newarray .int, 2) := by decide +kernel
theorem d_M_init_10 : decode b_M_init 10 = .ok (.putfield 9, 3) := by decide +kernel
theorem d_M_init_13 : decode b_M_init 13 = .ok (.aload_n 0, 1) := by decide +kernel
theorem d_M_init_14 : decode b_M_init 14 = .ok (.sipush 1024, 3) := by decide +kernel
theorem d_M_init_17 : decode b_M_init 17 = .ok (.newarray .int, 2) := by decide +kernel
theorem d_M_init_19 : decode b_M_init 19 = .ok (.putfield 13, 3) := by decide +kernel
theorem d_M_init_22 : decode b_M_init 22 = .ok (.aload_n 0, 1) := by decide +kernel
theorem d_M_init_23 : decode b_M_init 23 = .ok (.bipush 60, 2) := by decide +kernel
theorem d_M_init_25 : decode b_M_init 25 = .ok (.newarray .int, 2) := by decide +kernel
theorem d_M_init_27 : decode b_M_init 27 = .ok (.putfield 16, 3) := by decide +kernel
theorem d_M_init_30 : decode b_M_init 30 = .ok (.aload_n 0, 1) := by decide +kernel
theorem d_M_init_31 : decode b_M_init 31 = .ok (.bipush 60, 2) := by decide +kernel
theorem d_M_init_33 : decode b_M_init 33 = .ok (.newarray .int, 2) := by decide +kernel
theorem d_M_init_35 : decode b_M_init 35 = .ok (.putfield 19, 3) := by decide +kernel
theorem d_M_init_38 : decode b_M_init 38 = .ok (.aload_n 0, 1) := by decide +kernel
theorem d_M_init_39 : decode b_M_init 39 = .ok (.bipush 32, 2) := by decide +kernel
theorem d_M_init_41 : decode b_M_init 41 = .ok (.newarray .int, 2) := by decide +kernel
theorem d_M_init_43 : decode b_M_init 43 = .ok (.putfield 22, 3) := by decide +kernel
theorem d_M_init_46 : decode b_M_init 46 = .ok (.aload_n 0, 1) := by decide +kernel
theorem d_M_init_47 : decode b_M_init 47 = .ok (.sipush 1024, 3) := by decide +kernel
theorem d_M_init_50 : decode b_M_init 50 = .ok (.newarray .boolean, 2) := by decide +kernel
theorem d_M_init_52 : decode b_M_init 52 = .ok (.putfield 25, 3) := by decide +kernel
theorem d_M_init_55 : decode b_M_init 55 = .ok (.aload_n 0, 1) := by decide +kernel
theorem d_M_init_56 : decode b_M_init 56 = .ok (.sipush 1024, 3) := by decide +kernel
theorem d_M_init_59 : decode b_M_init 59 = .ok (.newarray .boolean, 2) := by decide +kernel
theorem d_M_init_61 : decode b_M_init 61 = .ok (.putfield 29, 3) := by decide +kernel
theorem d_M_init_64 : decode b_M_init 64 = .ok (.return_, 1) := by decide +kernel
theorem d_M_thrown_0 : decode b_M_thrown 0 = .ok (.aload_n 0, 1) := by decide +kernel
theorem d_M_thrown_1 : decode b_M_thrown 1 = .ok (.getfield 32, 3) := by decide +kernel
theorem d_M_thrown_4 : decode b_M_thrown 4 = .ok (.ireturn, 1) := by decide +kernel
theorem d_M_isVertex_0 : decode b_M_isVertex 0 = .ok (.iload_n 0, 1) := by decide +kernel
theorem d_M_isVertex_1 : decode b_M_isVertex 1 = .ok (.ifCond .lt 13, 3) := by decide +kernel
theorem d_M_isVertex_4 : decode b_M_isVertex 4 = .ok (.iload_n 0, 1) := by decide +kernel
theorem d_M_isVertex_5 : decode b_M_isVertex 5 = .ok (.bipush 32, 2) := by decide +kernel
theorem d_M_isVertex_7 : decode b_M_isVertex 7 = .ok (.if_icmp .ge 7, 3) := by decide +kernel
theorem d_M_isVertex_10 : decode b_M_isVertex 10 = .ok (.iconst 1, 1) := by decide +kernel
theorem d_M_isVertex_11 : decode b_M_isVertex 11 = .ok (.goto 4, 3) := by decide +kernel
theorem d_M_isVertex_14 : decode b_M_isVertex 14 = .ok (.iconst 0, 1) := by decide +kernel
theorem d_M_isVertex_15 : decode b_M_isVertex 15 = .ok (.ireturn, 1) := by decide +kernel
theorem d_M_change_0 : decode b_M_change 0 = .ok (.aload_n 0, 1) := by decide +kernel
theorem d_M_change_1 : decode b_M_change 1 = .ok (.iload_n 1, 1) := by decide +kernel
theorem d_M_change_2 : decode b_M_change 2 = .ok (.invokestatic 36, 3) := by decide +kernel
theorem d_M_change_5 : decode b_M_change 5 = .ok (.ifCond .eq 10, 3) := by decide +kernel
theorem d_M_change_8 : decode b_M_change 8 = .ok (.iload_n 2, 1) := by decide +kernel
theorem d_M_change_9 : decode b_M_change 9 = .ok (.invokestatic 36, 3) := by decide +kernel
theorem d_M_change_12 : decode b_M_change 12 = .ok (.ifCond .ne 7, 3) := by decide +kernel
theorem d_M_change_15 : decode b_M_change 15 = .ok (.iconst 1, 1) := by decide +kernel
theorem d_M_change_16 : decode b_M_change 16 = .ok (.goto 17, 3) := by decide +kernel
theorem d_M_change_19 : decode b_M_change 19 = .ok (.aload_n 0, 1) := by decide +kernel
theorem d_M_change_20 : decode b_M_change 20 = .ok (.getfield 40, 3) := by decide +kernel
theorem d_M_change_23 : decode b_M_change 23 = .ok (.bipush 60, 2) := by decide +kernel
theorem d_M_change_25 : decode b_M_change 25 = .ok (.if_icmp .ne 7, 3) := by decide +kernel
theorem d_M_change_28 : decode b_M_change 28 = .ok (.iconst 2, 1) := by decide +kernel
theorem d_M_change_29 : decode b_M_change 29 = .ok (.goto 4, 3) := by decide +kernel
theorem d_M_change_32 : decode b_M_change 32 = .ok (.iconst 0, 1) := by decide +kernel
theorem d_M_change_33 : decode b_M_change 33 = .ok (.putfield 32, 3) := by decide +kernel
theorem d_M_change_36 : decode b_M_change 36 = .ok (.aload_n 0, 1) := by decide +kernel
theorem d_M_change_37 : decode b_M_change 37 = .ok (.getfield 32, 3) := by decide +kernel
theorem d_M_change_40 : decode b_M_change 40 = .ok (.ifCond .le 5, 3) := by decide +kernel
theorem d_M_change_43 : decode b_M_change 43 = .ok (.iconst 0, 1) := by decide +kernel
theorem d_M_change_44 : decode b_M_change 44 = .ok (.ireturn, 1) := by decide +kernel
theorem d_M_change_45 : decode b_M_change 45 = .ok (.aload_n 0, 1) := by decide +kernel
theorem d_M_change_46 : decode b_M_change 46 = .ok (.getfield 16, 3) := by decide +kernel
theorem d_M_change_49 : decode b_M_change 49 = .ok (.aload_n 0, 1) := by decide +kernel
theorem d_M_change_50 : decode b_M_change 50 = .ok (.getfield 40, 3) := by decide +kernel
theorem d_M_change_53 : decode b_M_change 53 = .ok (.bipush 32, 2) := by decide +kernel
theorem d_M_change_55 : decode b_M_change 55 = .ok (.iload_n 1, 1) := by decide +kernel
theorem d_M_change_56 : decode b_M_change 56 = .ok (.imul, 1) := by decide +kernel
theorem d_M_change_57 : decode b_M_change 57 = .ok (.iload_n 2, 1) := by decide +kernel
theorem d_M_change_58 : decode b_M_change 58 = .ok (.iadd, 1) := by decide +kernel
theorem d_M_change_59 : decode b_M_change 59 = .ok (.iastore, 1) := by decide +kernel
theorem d_M_change_60 : decode b_M_change 60 = .ok (.aload_n 0, 1) := by decide +kernel
theorem d_M_change_61 : decode b_M_change 61 = .ok (.getfield 19, 3) := by decide +kernel
theorem d_M_change_64 : decode b_M_change 64 = .ok (.aload_n 0, 1) := by decide +kernel
theorem d_M_change_65 : decode b_M_change 65 = .ok (.getfield 40, 3) := by decide +kernel
theorem d_M_change_68 : decode b_M_change 68 = .ok (.iload_n 3, 1) := by decide +kernel
theorem d_M_change_69 : decode b_M_change 69 = .ok (.ifCond .eq 7, 3) := by decide +kernel
theorem d_M_change_72 : decode b_M_change 72 = .ok (.iconst 1, 1) := by decide +kernel
theorem d_M_change_73 : decode b_M_change 73 = .ok (.goto 4, 3) := by decide +kernel
theorem d_M_change_76 : decode b_M_change 76 = .ok (.iconst (-1), 1) := by decide +kernel
theorem d_M_change_77 : decode b_M_change 77 = .ok (.iastore, 1) := by decide +kernel
theorem d_M_change_78 : decode b_M_change 78 = .ok (.aload_n 0, 1) := by decide +kernel
theorem d_M_change_79 : decode b_M_change 79 = .ok (.dup, 1) := by decide +kernel
theorem d_M_change_80 : decode b_M_change 80 = .ok (.getfield 40, 3) := by decide +kernel
theorem d_M_change_83 : decode b_M_change 83 = .ok (.iconst 1, 1) := by decide +kernel
theorem d_M_change_84 : decode b_M_change 84 = .ok (.iadd, 1) := by decide +kernel
theorem d_M_change_85 : decode b_M_change 85 = .ok (.putfield 40, 3) := by decide +kernel
theorem d_M_change_88 : decode b_M_change 88 = .ok (.aload_n 0, 1) := by decide +kernel
theorem d_M_change_89 : decode b_M_change 89 = .ok (.getfield 40, 3) := by decide +kernel
theorem d_M_change_92 : decode b_M_change 92 = .ok (.ireturn, 1) := by decide +kernel
theorem d_M_forget_0 : decode b_M_forget 0 = .ok (.aload_n 0, 1) := by decide +kernel
theorem d_M_forget_1 : decode b_M_forget 1 = .ok (.iconst 0, 1) := by decide +kernel
theorem d_M_forget_2 : decode b_M_forget 2 = .ok (.putfield 32, 3) := by decide +kernel
theorem d_M_forget_5 : decode b_M_forget 5 = .ok (.aload_n 0, 1) := by decide +kernel
theorem d_M_forget_6 : decode b_M_forget 6 = .ok (.getfield 40, 3) := by decide +kernel
theorem d_M_forget_9 : decode b_M_forget 9 = .ok (.istore_n 1, 1) := by decide +kernel
theorem d_M_forget_10 : decode b_M_forget 10 = .ok (.aload_n 0, 1) := by decide +kernel
theorem d_M_forget_11 : decode b_M_forget 11 = .ok (.iconst 0, 1) := by decide +kernel
theorem d_M_forget_12 : decode b_M_forget 12 = .ok (.putfield 40, 3) := by decide +kernel
theorem d_M_forget_15 : decode b_M_forget 15 = .ok (.iload_n 1, 1) := by decide +kernel
theorem d_M_forget_16 : decode b_M_forget 16 = .ok (.ireturn, 1) := by decide +kernel
theorem d_M_apply_0 : decode b_M_apply 0 = .ok (.iconst 0, 1) := by decide +kernel
theorem d_M_apply_1 : decode b_M_apply 1 = .ok (.istore_n 1, 1) := by decide +kernel
theorem d_M_apply_2 : decode b_M_apply 2 = .ok (.iload_n 1, 1) := by decide +kernel
theorem d_M_apply_3 : decode b_M_apply 3 = .ok (.sipush 1024, 3) := by decide +kernel
theorem d_M_apply_6 : decode b_M_apply 6 = .ok (.if_icmp .ge 21, 3) := by decide +kernel
theorem d_M_apply_9 : decode b_M_apply 9 = .ok (.aload_n 0, 1) := by decide +kernel
theorem d_M_apply_10 : decode b_M_apply 10 = .ok (.getfield 13, 3) := by decide +kernel
theorem d_M_apply_13 : decode b_M_apply 13 = .ok (.iload_n 1, 1) := by decide +kernel
theorem d_M_apply_14 : decode b_M_apply 14 = .ok (.aload_n 0, 1) := by decide +kernel
theorem d_M_apply_15 : decode b_M_apply 15 = .ok (.getfield 9, 3) := by decide +kernel
theorem d_M_apply_18 : decode b_M_apply 18 = .ok (.iload_n 1, 1) := by decide +kernel
theorem d_M_apply_19 : decode b_M_apply 19 = .ok (.iaload, 1) := by decide +kernel
theorem d_M_apply_20 : decode b_M_apply 20 = .ok (.iastore, 1) := by decide +kernel
theorem d_M_apply_21 : decode b_M_apply 21 = .ok (.iinc 1 1, 3) := by decide +kernel
theorem d_M_apply_24 : decode b_M_apply 24 = .ok (.goto (-22), 3) := by decide +kernel
theorem d_M_apply_27 : decode b_M_apply 27 = .ok (.iconst 0, 1) := by decide +kernel
theorem d_M_apply_28 : decode b_M_apply 28 = .ok (.istore_n 1, 1) := by decide +kernel
theorem d_M_apply_29 : decode b_M_apply 29 = .ok (.iload_n 1, 1) := by decide +kernel
theorem d_M_apply_30 : decode b_M_apply 30 = .ok (.aload_n 0, 1) := by decide +kernel
theorem d_M_apply_31 : decode b_M_apply 31 = .ok (.getfield 40, 3) := by decide +kernel
theorem d_M_apply_34 : decode b_M_apply 34 = .ok (.if_icmp .ge 29, 3) := by decide +kernel
theorem d_M_apply_37 : decode b_M_apply 37 = .ok (.aload_n 0, 1) := by decide +kernel
theorem d_M_apply_38 : decode b_M_apply 38 = .ok (.getfield 13, 3) := by decide +kernel
theorem d_M_apply_41 : decode b_M_apply 41 = .ok (.aload_n 0, 1) := by decide +kernel
theorem d_M_apply_42 : decode b_M_apply 42 = .ok (.getfield 16, 3) := by decide +kernel
theorem d_M_apply_45 : decode b_M_apply 45 = .ok (.iload_n 1, 1) := by decide +kernel
theorem d_M_apply_46 : decode b_M_apply 46 = .ok (.iaload, 1) := by decide +kernel
theorem d_M_apply_47 : decode b_M_apply 47 = .ok (.dup2, 1) := by decide +kernel
theorem d_M_apply_48 : decode b_M_apply 48 = .ok (.iaload, 1) := by decide +kernel
theorem d_M_apply_49 : decode b_M_apply 49 = .ok (.aload_n 0, 1) := by decide +kernel
theorem d_M_apply_50 : decode b_M_apply 50 = .ok (.getfield 19, 3) := by decide +kernel
theorem d_M_apply_53 : decode b_M_apply 53 = .ok (.iload_n 1, 1) := by decide +kernel
theorem d_M_apply_54 : decode b_M_apply 54 = .ok (.iaload, 1) := by decide +kernel
theorem d_M_apply_55 : decode b_M_apply 55 = .ok (.iadd, 1) := by decide +kernel
theorem d_M_apply_56 : decode b_M_apply 56 = .ok (.iastore, 1) := by decide +kernel
theorem d_M_apply_57 : decode b_M_apply 57 = .ok (.iinc 1 1, 3) := by decide +kernel
theorem d_M_apply_60 : decode b_M_apply 60 = .ok (.goto (-31), 3) := by decide +kernel
theorem d_M_apply_63 : decode b_M_apply 63 = .ok (.aload_n 0, 1) := by decide +kernel
theorem d_M_apply_64 : decode b_M_apply 64 = .ok (.iconst 0, 1) := by decide +kernel
theorem d_M_apply_65 : decode b_M_apply 65 = .ok (.putfield 32, 3) := by decide +kernel
theorem d_M_apply_68 : decode b_M_apply 68 = .ok (.iconst 0, 1) := by decide +kernel
theorem d_M_apply_69 : decode b_M_apply 69 = .ok (.istore_n 1, 1) := by decide +kernel
theorem d_M_apply_70 : decode b_M_apply 70 = .ok (.iload_n 1, 1) := by decide +kernel
theorem d_M_apply_71 : decode b_M_apply 71 = .ok (.sipush 1024, 3) := by decide +kernel
theorem d_M_apply_74 : decode b_M_apply 74 = .ok (.if_icmp .ge 23, 3) := by decide +kernel
theorem d_M_apply_77 : decode b_M_apply 77 = .ok (.aload_n 0, 1) := by decide +kernel
theorem d_M_apply_78 : decode b_M_apply 78 = .ok (.getfield 13, 3) := by decide +kernel
theorem d_M_apply_81 : decode b_M_apply 81 = .ok (.iload_n 1, 1) := by decide +kernel
theorem d_M_apply_82 : decode b_M_apply 82 = .ok (.iaload, 1) := by decide +kernel
theorem d_M_apply_83 : decode b_M_apply 83 = .ok (.ifCond .ge 8, 3) := by decide +kernel
theorem d_M_apply_86 : decode b_M_apply 86 = .ok (.aload_n 0, 1) := by decide +kernel
theorem d_M_apply_87 : decode b_M_apply 87 = .ok (.iconst 1, 1) := by decide +kernel
theorem d_M_apply_88 : decode b_M_apply 88 = .ok (.putfield 32, 3) := by decide +kernel
theorem d_M_apply_91 : decode b_M_apply 91 = .ok (.iinc 1 1, 3) := by decide +kernel
theorem d_M_apply_94 : decode b_M_apply 94 = .ok (.goto (-24), 3) := by decide +kernel
theorem d_M_apply_97 : decode b_M_apply 97 = .ok (.aload_n 0, 1) := by decide +kernel
theorem d_M_apply_98 : decode b_M_apply 98 = .ok (.getfield 32, 3) := by decide +kernel
theorem d_M_apply_101 : decode b_M_apply 101 = .ok (.ifCond .le 5, 3) := by decide +kernel
theorem d_M_apply_104 : decode b_M_apply 104 = .ok (.iconst 0, 1) := by decide +kernel
theorem d_M_apply_105 : decode b_M_apply 105 = .ok (.ireturn, 1) := by decide +kernel
theorem d_M_apply_106 : decode b_M_apply 106 = .ok (.aload_n 0, 1) := by decide +kernel
theorem d_M_apply_107 : decode b_M_apply 107 = .ok (.iconst 0, 1) := by decide +kernel
theorem d_M_apply_108 : decode b_M_apply 108 = .ok (.putfield 40, 3) := by decide +kernel
theorem d_M_apply_111 : decode b_M_apply 111 = .ok (.iconst 0, 1) := by decide +kernel
theorem d_M_apply_112 : decode b_M_apply 112 = .ok (.istore_n 1, 1) := by decide +kernel
theorem d_M_apply_113 : decode b_M_apply 113 = .ok (.iload_n 1, 1) := by decide +kernel
theorem d_M_apply_114 : decode b_M_apply 114 = .ok (.sipush 1024, 3) := by decide +kernel
theorem d_M_apply_117 : decode b_M_apply 117 = .ok (.if_icmp .ge 53, 3) := by decide +kernel
theorem d_M_apply_120 : decode b_M_apply 120 = .ok (.aload_n 0, 1) := by decide +kernel
theorem d_M_apply_121 : decode b_M_apply 121 = .ok (.getfield 9, 3) := by decide +kernel
theorem d_M_apply_124 : decode b_M_apply 124 = .ok (.iload_n 1, 1) := by decide +kernel
theorem d_M_apply_125 : decode b_M_apply 125 = .ok (.aload_n 0, 1) := by decide +kernel
theorem d_M_apply_126 : decode b_M_apply 126 = .ok (.getfield 13, 3) := by decide +kernel
theorem d_M_apply_129 : decode b_M_apply 129 = .ok (.iload_n 1, 1) := by decide +kernel
theorem d_M_apply_130 : decode b_M_apply 130 = .ok (.iaload, 1) := by decide +kernel
theorem d_M_apply_131 : decode b_M_apply 131 = .ok (.iastore, 1) := by decide +kernel
theorem d_M_apply_132 : decode b_M_apply 132 = .ok (.aload_n 0, 1) := by decide +kernel
theorem d_M_apply_133 : decode b_M_apply 133 = .ok (.getfield 29, 3) := by decide +kernel
theorem d_M_apply_136 : decode b_M_apply 136 = .ok (.iload_n 1, 1) := by decide +kernel
theorem d_M_apply_137 : decode b_M_apply 137 = .ok (.aload_n 0, 1) := by decide +kernel
theorem d_M_apply_138 : decode b_M_apply 138 = .ok (.getfield 25, 3) := by decide +kernel
theorem d_M_apply_141 : decode b_M_apply 141 = .ok (.iload_n 1, 1) := by decide +kernel
theorem d_M_apply_142 : decode b_M_apply 142 = .ok (.baload, 1) := by decide +kernel
theorem d_M_apply_143 : decode b_M_apply 143 = .ok (.bastore, 1) := by decide +kernel
theorem d_M_apply_144 : decode b_M_apply 144 = .ok (.aload_n 0, 1) := by decide +kernel
theorem d_M_apply_145 : decode b_M_apply 145 = .ok (.getfield 25, 3) := by decide +kernel
theorem d_M_apply_148 : decode b_M_apply 148 = .ok (.iload_n 1, 1) := by decide +kernel
theorem d_M_apply_149 : decode b_M_apply 149 = .ok (.aload_n 0, 1) := by decide +kernel
theorem d_M_apply_150 : decode b_M_apply 150 = .ok (.getfield 9, 3) := by decide +kernel
theorem d_M_apply_153 : decode b_M_apply 153 = .ok (.iload_n 1, 1) := by decide +kernel
theorem d_M_apply_154 : decode b_M_apply 154 = .ok (.iaload, 1) := by decide +kernel
theorem d_M_apply_155 : decode b_M_apply 155 = .ok (.ifCond .le 7, 3) := by decide +kernel
theorem d_M_apply_158 : decode b_M_apply 158 = .ok (.iconst 1, 1) := by decide +kernel
theorem d_M_apply_159 : decode b_M_apply 159 = .ok (.goto 4, 3) := by decide +kernel
theorem d_M_apply_162 : decode b_M_apply 162 = .ok (.iconst 0, 1) := by decide +kernel
theorem d_M_apply_163 : decode b_M_apply 163 = .ok (.bastore, 1) := by decide +kernel
theorem d_M_apply_164 : decode b_M_apply 164 = .ok (.iinc 1 1, 3) := by decide +kernel
theorem d_M_apply_167 : decode b_M_apply 167 = .ok (.goto (-54), 3) := by decide +kernel
theorem d_M_apply_170 : decode b_M_apply 170 = .ok (.iconst 0, 1) := by decide +kernel
theorem d_M_apply_171 : decode b_M_apply 171 = .ok (.istore_n 1, 1) := by decide +kernel
theorem d_M_apply_172 : decode b_M_apply 172 = .ok (.iload_n 1, 1) := by decide +kernel
theorem d_M_apply_173 : decode b_M_apply 173 = .ok (.bipush 32, 2) := by decide +kernel
theorem d_M_apply_175 : decode b_M_apply 175 = .ok (.if_icmp .ge 80, 3) := by decide +kernel
theorem d_M_apply_178 : decode b_M_apply 178 = .ok (.iconst 0, 1) := by decide +kernel
theorem d_M_apply_179 : decode b_M_apply 179 = .ok (.istore_n 2, 1) := by decide +kernel
theorem d_M_apply_180 : decode b_M_apply 180 = .ok (.iload_n 2, 1) := by decide +kernel
theorem d_M_apply_181 : decode b_M_apply 181 = .ok (.bipush 32, 2) := by decide +kernel
theorem d_M_apply_183 : decode b_M_apply 183 = .ok (.if_icmp .ge 66, 3) := by decide +kernel
theorem d_M_apply_186 : decode b_M_apply 186 = .ok (.aload_n 0, 1) := by decide +kernel
theorem d_M_apply_187 : decode b_M_apply 187 = .ok (.getfield 25, 3) := by decide +kernel
theorem d_M_apply_190 : decode b_M_apply 190 = .ok (.bipush 32, 2) := by decide +kernel
theorem d_M_apply_192 : decode b_M_apply 192 = .ok (.iload_n 2, 1) := by decide +kernel
theorem d_M_apply_193 : decode b_M_apply 193 = .ok (.imul, 1) := by decide +kernel
theorem d_M_apply_194 : decode b_M_apply 194 = .ok (.iload_n 1, 1) := by decide +kernel
theorem d_M_apply_195 : decode b_M_apply 195 = .ok (.iadd, 1) := by decide +kernel
theorem d_M_apply_196 : decode b_M_apply 196 = .ok (.baload, 1) := by decide +kernel
theorem d_M_apply_197 : decode b_M_apply 197 = .ok (.ifCond .ne 6, 3) := by decide +kernel
theorem d_M_apply_200 : decode b_M_apply 200 = .ok (.goto 43, 3) := by decide +kernel
theorem d_M_apply_203 : decode b_M_apply 203 = .ok (.iconst 0, 1) := by decide +kernel
theorem d_M_apply_204 : decode b_M_apply 204 = .ok (.istore_n 3, 1) := by decide +kernel
theorem d_M_apply_205 : decode b_M_apply 205 = .ok (.iload_n 3, 1) := by decide +kernel
theorem d_M_apply_206 : decode b_M_apply 206 = .ok (.bipush 32, 2) := by decide +kernel
theorem d_M_apply_208 : decode b_M_apply 208 = .ok (.if_icmp .ge 35, 3) := by decide +kernel
theorem d_M_apply_211 : decode b_M_apply 211 = .ok (.aload_n 0, 1) := by decide +kernel
theorem d_M_apply_212 : decode b_M_apply 212 = .ok (.getfield 25, 3) := by decide +kernel
theorem d_M_apply_215 : decode b_M_apply 215 = .ok (.bipush 32, 2) := by decide +kernel
theorem d_M_apply_217 : decode b_M_apply 217 = .ok (.iload_n 1, 1) := by decide +kernel
theorem d_M_apply_218 : decode b_M_apply 218 = .ok (.imul, 1) := by decide +kernel
theorem d_M_apply_219 : decode b_M_apply 219 = .ok (.iload_n 3, 1) := by decide +kernel
theorem d_M_apply_220 : decode b_M_apply 220 = .ok (.iadd, 1) := by decide +kernel
theorem d_M_apply_221 : decode b_M_apply 221 = .ok (.baload, 1) := by decide +kernel
theorem d_M_apply_222 : decode b_M_apply 222 = .ok (.ifCond .eq 15, 3) := by decide +kernel
theorem d_M_apply_225 : decode b_M_apply 225 = .ok (.aload_n 0, 1) := by decide +kernel
theorem d_M_apply_226 : decode b_M_apply 226 = .ok (.getfield 25, 3) := by decide +kernel
theorem d_M_apply_229 : decode b_M_apply 229 = .ok (.bipush 32, 2) := by decide +kernel
theorem d_M_apply_231 : decode b_M_apply 231 = .ok (.iload_n 2, 1) := by decide +kernel
theorem d_M_apply_232 : decode b_M_apply 232 = .ok (.imul, 1) := by decide +kernel
theorem d_M_apply_233 : decode b_M_apply 233 = .ok (.iload_n 3, 1) := by decide +kernel
theorem d_M_apply_234 : decode b_M_apply 234 = .ok (.iadd, 1) := by decide +kernel
theorem d_M_apply_235 : decode b_M_apply 235 = .ok (.iconst 1, 1) := by decide +kernel
theorem d_M_apply_236 : decode b_M_apply 236 = .ok (.bastore, 1) := by decide +kernel
theorem d_M_apply_237 : decode b_M_apply 237 = .ok (.iinc 3 1, 3) := by decide +kernel
theorem d_M_apply_240 : decode b_M_apply 240 = .ok (.goto (-35), 3) := by decide +kernel
theorem d_M_apply_243 : decode b_M_apply 243 = .ok (.iinc 2 1, 3) := by decide +kernel
theorem d_M_apply_246 : decode b_M_apply 246 = .ok (.goto (-66), 3) := by decide +kernel
theorem d_M_apply_249 : decode b_M_apply 249 = .ok (.iinc 1 1, 3) := by decide +kernel
theorem d_M_apply_252 : decode b_M_apply 252 = .ok (.goto (-80), 3) := by decide +kernel
theorem d_M_apply_255 : decode b_M_apply 255 = .ok (.aload_n 0, 1) := by decide +kernel
theorem d_M_apply_256 : decode b_M_apply 256 = .ok (.iconst 1, 1) := by decide +kernel
theorem d_M_apply_257 : decode b_M_apply 257 = .ok (.invokevirtual 43, 3) := by decide +kernel
theorem d_M_apply_260 : decode b_M_apply 260 = .ok (.aload_n 0, 1) := by decide +kernel
theorem d_M_apply_261 : decode b_M_apply 261 = .ok (.iconst 0, 1) := by decide +kernel
theorem d_M_apply_262 : decode b_M_apply 262 = .ok (.invokevirtual 43, 3) := by decide +kernel
theorem d_M_apply_265 : decode b_M_apply 265 = .ok (.iadd, 1) := by decide +kernel
theorem d_M_apply_266 : decode b_M_apply 266 = .ok (.ireturn, 1) := by decide +kernel
theorem d_M_many_0 : decode b_M_many 0 = .ok (.iconst 0, 1) := by decide +kernel
theorem d_M_many_1 : decode b_M_many 1 = .ok (.istore_n 2, 1) := by decide +kernel
theorem d_M_many_2 : decode b_M_many 2 = .ok (.iconst 0, 1) := by decide +kernel
theorem d_M_many_3 : decode b_M_many 3 = .ok (.istore_n 3, 1) := by decide +kernel
theorem d_M_many_4 : decode b_M_many 4 = .ok (.iload_n 3, 1) := by decide +kernel
theorem d_M_many_5 : decode b_M_many 5 = .ok (.sipush 1024, 3) := by decide +kernel
theorem d_M_many_8 : decode b_M_many 8 = .ok (.if_icmp .ge 37, 3) := by decide +kernel
theorem d_M_many_11 : decode b_M_many 11 = .ok (.aload_n 0, 1) := by decide +kernel
theorem d_M_many_12 : decode b_M_many 12 = .ok (.getfield 25, 3) := by decide +kernel
theorem d_M_many_15 : decode b_M_many 15 = .ok (.iload_n 3, 1) := by decide +kernel
theorem d_M_many_16 : decode b_M_many 16 = .ok (.baload, 1) := by decide +kernel
theorem d_M_many_17 : decode b_M_many 17 = .ok (.aload_n 0, 1) := by decide +kernel
theorem d_M_many_18 : decode b_M_many 18 = .ok (.getfield 29, 3) := by decide +kernel
theorem d_M_many_21 : decode b_M_many 21 = .ok (.iload_n 3, 1) := by decide +kernel
theorem d_M_many_22 : decode b_M_many 22 = .ok (.baload, 1) := by decide +kernel
theorem d_M_many_23 : decode b_M_many 23 = .ok (.if_icmp .eq 16, 3) := by decide +kernel
theorem d_M_many_26 : decode b_M_many 26 = .ok (.aload_n 0, 1) := by decide +kernel
theorem d_M_many_27 : decode b_M_many 27 = .ok (.getfield 25, 3) := by decide +kernel
theorem d_M_many_30 : decode b_M_many 30 = .ok (.iload_n 3, 1) := by decide +kernel
theorem d_M_many_31 : decode b_M_many 31 = .ok (.baload, 1) := by decide +kernel
theorem d_M_many_32 : decode b_M_many 32 = .ok (.iload_n 1, 1) := by decide +kernel
theorem d_M_many_33 : decode b_M_many 33 = .ok (.if_icmp .ne 6, 3) := by decide +kernel
theorem d_M_many_36 : decode b_M_many 36 = .ok (.iinc 2 1, 3) := by decide +kernel
theorem d_M_many_39 : decode b_M_many 39 = .ok (.iinc 3 1, 3) := by decide +kernel
theorem d_M_many_42 : decode b_M_many 42 = .ok (.goto (-38), 3) := by decide +kernel
theorem d_M_many_45 : decode b_M_many 45 = .ok (.iload_n 2, 1) := by decide +kernel
theorem d_M_many_46 : decode b_M_many 46 = .ok (.ireturn, 1) := by decide +kernel
theorem d_M_holds_0 : decode b_M_holds 0 = .ok (.aload_n 0, 1) := by decide +kernel
theorem d_M_holds_1 : decode b_M_holds 1 = .ok (.iload_n 1, 1) := by decide +kernel
theorem d_M_holds_2 : decode b_M_holds 2 = .ok (.invokestatic 36, 3) := by decide +kernel
theorem d_M_holds_5 : decode b_M_holds 5 = .ok (.ifCond .eq 14, 3) := by decide +kernel
theorem d_M_holds_8 : decode b_M_holds 8 = .ok (.iload_n 2, 1) := by decide +kernel
theorem d_M_holds_9 : decode b_M_holds 9 = .ok (.invokestatic 36, 3) := by decide +kernel
theorem d_M_holds_12 : decode b_M_holds 12 = .ok (.ifCond .eq 7, 3) := by decide +kernel
theorem d_M_holds_15 : decode b_M_holds 15 = .ok (.iconst 0, 1) := by decide +kernel
theorem d_M_holds_16 : decode b_M_holds 16 = .ok (.goto 4, 3) := by decide +kernel
theorem d_M_holds_19 : decode b_M_holds 19 = .ok (.iconst 1, 1) := by decide +kernel
theorem d_M_holds_20 : decode b_M_holds 20 = .ok (.putfield 32, 3) := by decide +kernel
theorem d_M_holds_23 : decode b_M_holds 23 = .ok (.aload_n 0, 1) := by decide +kernel
theorem d_M_holds_24 : decode b_M_holds 24 = .ok (.getfield 32, 3) := by decide +kernel
theorem d_M_holds_27 : decode b_M_holds 27 = .ok (.ifCond .ne 21, 3) := by decide +kernel
theorem d_M_holds_30 : decode b_M_holds 30 = .ok (.aload_n 0, 1) := by decide +kernel
theorem d_M_holds_31 : decode b_M_holds 31 = .ok (.getfield 25, 3) := by decide +kernel
theorem d_M_holds_34 : decode b_M_holds 34 = .ok (.bipush 32, 2) := by decide +kernel
theorem d_M_holds_36 : decode b_M_holds 36 = .ok (.iload_n 1, 1) := by decide +kernel
theorem d_M_holds_37 : decode b_M_holds 37 = .ok (.imul, 1) := by decide +kernel
theorem d_M_holds_38 : decode b_M_holds 38 = .ok (.iload_n 2, 1) := by decide +kernel
theorem d_M_holds_39 : decode b_M_holds 39 = .ok (.iadd, 1) := by decide +kernel
theorem d_M_holds_40 : decode b_M_holds 40 = .ok (.baload, 1) := by decide +kernel
theorem d_M_holds_41 : decode b_M_holds 41 = .ok (.ifCond .eq 7, 3) := by decide +kernel
theorem d_M_holds_44 : decode b_M_holds 44 = .ok (.iconst 1, 1) := by decide +kernel
theorem d_M_holds_45 : decode b_M_holds 45 = .ok (.goto 4, 3) := by decide +kernel
theorem d_M_holds_48 : decode b_M_holds 48 = .ok (.iconst 0, 1) := by decide +kernel
theorem d_M_holds_49 : decode b_M_holds 49 = .ok (.ireturn, 1) := by decide +kernel
theorem d_M_other_0 : decode b_M_other 0 = .ok (.iconst (-1), 1) := by decide +kernel
theorem d_M_other_1 : decode b_M_other 1 = .ok (.istore_n 3, 1) := by decide +kernel
theorem d_M_other_2 : decode b_M_other 2 = .ok (.aload_n 0, 1) := by decide +kernel
theorem d_M_other_3 : decode b_M_other 3 = .ok (.iconst 0, 1) := by decide +kernel
theorem d_M_other_4 : decode b_M_other 4 = .ok (.putfield 32, 3) := by decide +kernel
theorem d_M_other_7 : decode b_M_other 7 = .ok (.iconst 0, 1) := by decide +kernel
theorem d_M_other_8 : decode b_M_other 8 = .ok (.istore 4, 2) := by decide +kernel
theorem d_M_other_10 : decode b_M_other 10 = .ok (.iload 4, 2) := by decide +kernel
theorem d_M_other_12 : decode b_M_other 12 = .ok (.sipush 1024, 3) := by decide +kernel
theorem d_M_other_15 : decode b_M_other 15 = .ok (.if_icmp .ge 51, 3) := by decide +kernel
theorem d_M_other_18 : decode b_M_other 18 = .ok (.aload_n 0, 1) := by decide +kernel
theorem d_M_other_19 : decode b_M_other 19 = .ok (.getfield 25, 3) := by decide +kernel
theorem d_M_other_22 : decode b_M_other 22 = .ok (.iload 4, 2) := by decide +kernel
theorem d_M_other_24 : decode b_M_other 24 = .ok (.baload, 1) := by decide +kernel
theorem d_M_other_25 : decode b_M_other 25 = .ok (.aload_n 0, 1) := by decide +kernel
theorem d_M_other_26 : decode b_M_other 26 = .ok (.getfield 29, 3) := by decide +kernel
theorem d_M_other_29 : decode b_M_other 29 = .ok (.iload 4, 2) := by decide +kernel
theorem d_M_other_31 : decode b_M_other 31 = .ok (.baload, 1) := by decide +kernel
theorem d_M_other_32 : decode b_M_other 32 = .ok (.if_icmp .eq 28, 3) := by decide +kernel
theorem d_M_other_35 : decode b_M_other 35 = .ok (.aload_n 0, 1) := by decide +kernel
theorem d_M_other_36 : decode b_M_other 36 = .ok (.getfield 25, 3) := by decide +kernel
theorem d_M_other_39 : decode b_M_other 39 = .ok (.iload 4, 2) := by decide +kernel
theorem d_M_other_41 : decode b_M_other 41 = .ok (.baload, 1) := by decide +kernel
theorem d_M_other_42 : decode b_M_other 42 = .ok (.iload_n 2, 1) := by decide +kernel
theorem d_M_other_43 : decode b_M_other 43 = .ok (.if_icmp .eq 6, 3) := by decide +kernel
theorem d_M_other_46 : decode b_M_other 46 = .ok (.goto 14, 3) := by decide +kernel
theorem d_M_other_49 : decode b_M_other 49 = .ok (.iinc 3 1, 3) := by decide +kernel
theorem d_M_other_52 : decode b_M_other 52 = .ok (.iload_n 3, 1) := by decide +kernel
theorem d_M_other_53 : decode b_M_other 53 = .ok (.iload_n 1, 1) := by decide +kernel
theorem d_M_other_54 : decode b_M_other 54 = .ok (.if_icmp .ne 6, 3) := by decide +kernel
theorem d_M_other_57 : decode b_M_other 57 = .ok (.iload 4, 2) := by decide +kernel
theorem d_M_other_59 : decode b_M_other 59 = .ok (.ireturn, 1) := by decide +kernel
theorem d_M_other_60 : decode b_M_other 60 = .ok (.iinc 4 1, 3) := by decide +kernel
theorem d_M_other_63 : decode b_M_other 63 = .ok (.goto (-53), 3) := by decide +kernel
theorem d_M_other_66 : decode b_M_other 66 = .ok (.aload_n 0, 1) := by decide +kernel
theorem d_M_other_67 : decode b_M_other 67 = .ok (.iconst 1, 1) := by decide +kernel
theorem d_M_other_68 : decode b_M_other 68 = .ok (.putfield 32, 3) := by decide +kernel
theorem d_M_other_71 : decode b_M_other 71 = .ok (.iconst 0, 1) := by decide +kernel
theorem d_M_other_72 : decode b_M_other 72 = .ok (.ireturn, 1) := by decide +kernel
theorem d_M_came_0 : decode b_M_came 0 = .ok (.aload_n 0, 1) := by decide +kernel
theorem d_M_came_1 : decode b_M_came 1 = .ok (.iload_n 1, 1) := by decide +kernel
theorem d_M_came_2 : decode b_M_came 2 = .ok (.iconst 1, 1) := by decide +kernel
theorem d_M_came_3 : decode b_M_came 3 = .ok (.invokevirtual 47, 3) := by decide +kernel
theorem d_M_came_6 : decode b_M_came 6 = .ok (.ireturn, 1) := by decide +kernel
theorem d_M_went_0 : decode b_M_went 0 = .ok (.aload_n 0, 1) := by decide +kernel
theorem d_M_went_1 : decode b_M_went 1 = .ok (.iload_n 1, 1) := by decide +kernel
theorem d_M_went_2 : decode b_M_went 2 = .ok (.iconst 0, 1) := by decide +kernel
theorem d_M_went_3 : decode b_M_went 3 = .ok (.invokevirtual 47, 3) := by decide +kernel
theorem d_M_went_6 : decode b_M_went 6 = .ok (.ireturn, 1) := by decide +kernel
theorem d_M_distance_0 : decode b_M_distance 0 = .ok (.aload_n 0, 1) := by decide +kernel
theorem d_M_distance_1 : decode b_M_distance 1 = .ok (.iload_n 1, 1) := by decide +kernel
theorem d_M_distance_2 : decode b_M_distance 2 = .ok (.invokestatic 36, 3) := by decide +kernel
theorem d_M_distance_5 : decode b_M_distance 5 = .ok (.ifCond .eq 10, 3) := by decide +kernel
theorem d_M_distance_8 : decode b_M_distance 8 = .ok (.iload_n 2, 1) := by decide +kernel
theorem d_M_distance_9 : decode b_M_distance 9 = .ok (.invokestatic 36, 3) := by decide +kernel
theorem d_M_distance_12 : decode b_M_distance 12 = .ok (.ifCond .ne 7, 3) := by decide +kernel
theorem d_M_distance_15 : decode b_M_distance 15 = .ok (.iconst 1, 1) := by decide +kernel
theorem d_M_distance_16 : decode b_M_distance 16 = .ok (.goto 22, 3) := by decide +kernel
theorem d_M_distance_19 : decode b_M_distance 19 = .ok (.aload_n 0, 1) := by decide +kernel
theorem d_M_distance_20 : decode b_M_distance 20 = .ok (.getfield 25, 3) := by decide +kernel
theorem d_M_distance_23 : decode b_M_distance 23 = .ok (.bipush 32, 2) := by decide +kernel
theorem d_M_distance_25 : decode b_M_distance 25 = .ok (.iload_n 1, 1) := by decide +kernel
theorem d_M_distance_26 : decode b_M_distance 26 = .ok (.imul, 1) := by decide +kernel
theorem d_M_distance_27 : decode b_M_distance 27 = .ok (.iload_n 2, 1) := by decide +kernel
theorem d_M_distance_28 : decode b_M_distance 28 = .ok (.iadd, 1) := by decide +kernel
theorem d_M_distance_29 : decode b_M_distance 29 = .ok (.baload, 1) := by decide +kernel
theorem d_M_distance_30 : decode b_M_distance 30 = .ok (.ifCond .ne 7, 3) := by decide +kernel
theorem d_M_distance_33 : decode b_M_distance 33 = .ok (.iconst 2, 1) := by decide +kernel
theorem d_M_distance_34 : decode b_M_distance 34 = .ok (.goto 4, 3) := by decide +kernel
theorem d_M_distance_37 : decode b_M_distance 37 = .ok (.iconst 0, 1) := by decide +kernel
theorem d_M_distance_38 : decode b_M_distance 38 = .ok (.putfield 32, 3) := by decide +kernel
theorem d_M_distance_41 : decode b_M_distance 41 = .ok (.aload_n 0, 1) := by decide +kernel
theorem d_M_distance_42 : decode b_M_distance 42 = .ok (.getfield 32, 3) := by decide +kernel
theorem d_M_distance_45 : decode b_M_distance 45 = .ok (.ifCond .le 5, 3) := by decide +kernel
theorem d_M_distance_48 : decode b_M_distance 48 = .ok (.iconst 0, 1) := by decide +kernel
theorem d_M_distance_49 : decode b_M_distance 49 = .ok (.ireturn, 1) := by decide +kernel
theorem d_M_distance_50 : decode b_M_distance 50 = .ok (.iconst 0, 1) := by decide +kernel
theorem d_M_distance_51 : decode b_M_distance 51 = .ok (.istore_n 3, 1) := by decide +kernel
theorem d_M_distance_52 : decode b_M_distance 52 = .ok (.iload_n 3, 1) := by decide +kernel
theorem d_M_distance_53 : decode b_M_distance 53 = .ok (.bipush 32, 2) := by decide +kernel
theorem d_M_distance_55 : decode b_M_distance 55 = .ok (.if_icmp .ge 34, 3) := by decide +kernel
theorem d_M_distance_58 : decode b_M_distance 58 = .ok (.aload_n 0, 1) := by decide +kernel
theorem d_M_distance_59 : decode b_M_distance 59 = .ok (.getfield 22, 3) := by decide +kernel
theorem d_M_distance_62 : decode b_M_distance 62 = .ok (.iload_n 3, 1) := by decide +kernel
theorem d_M_distance_63 : decode b_M_distance 63 = .ok (.aload_n 0, 1) := by decide +kernel
theorem d_M_distance_64 : decode b_M_distance 64 = .ok (.getfield 9, 3) := by decide +kernel
theorem d_M_distance_67 : decode b_M_distance 67 = .ok (.bipush 32, 2) := by decide +kernel
theorem d_M_distance_69 : decode b_M_distance 69 = .ok (.iload_n 1, 1) := by decide +kernel
theorem d_M_distance_70 : decode b_M_distance 70 = .ok (.imul, 1) := by decide +kernel
theorem d_M_distance_71 : decode b_M_distance 71 = .ok (.iload_n 3, 1) := by decide +kernel
theorem d_M_distance_72 : decode b_M_distance 72 = .ok (.iadd, 1) := by decide +kernel
theorem d_M_distance_73 : decode b_M_distance 73 = .ok (.iaload, 1) := by decide +kernel
theorem d_M_distance_74 : decode b_M_distance 74 = .ok (.ifCond .le 7, 3) := by decide +kernel
theorem d_M_distance_77 : decode b_M_distance 77 = .ok (.iconst 1, 1) := by decide +kernel
theorem d_M_distance_78 : decode b_M_distance 78 = .ok (.goto 4, 3) := by decide +kernel
theorem d_M_distance_81 : decode b_M_distance 81 = .ok (.iconst 0, 1) := by decide +kernel
theorem d_M_distance_82 : decode b_M_distance 82 = .ok (.iastore, 1) := by decide +kernel
theorem d_M_distance_83 : decode b_M_distance 83 = .ok (.iinc 3 1, 3) := by decide +kernel
theorem d_M_distance_86 : decode b_M_distance 86 = .ok (.goto (-34), 3) := by decide +kernel
theorem d_M_distance_89 : decode b_M_distance 89 = .ok (.iconst 1, 1) := by decide +kernel
theorem d_M_distance_90 : decode b_M_distance 90 = .ok (.istore_n 3, 1) := by decide +kernel
theorem d_M_distance_91 : decode b_M_distance 91 = .ok (.aload_n 0, 1) := by decide +kernel
theorem d_M_distance_92 : decode b_M_distance 92 = .ok (.getfield 22, 3) := by decide +kernel
theorem d_M_distance_95 : decode b_M_distance 95 = .ok (.iload_n 2, 1) := by decide +kernel
theorem d_M_distance_96 : decode b_M_distance 96 = .ok (.iaload, 1) := by decide +kernel
theorem d_M_distance_97 : decode b_M_distance 97 = .ok (.ifCond .ne 91, 3) := by decide +kernel
theorem d_M_distance_100 : decode b_M_distance 100 = .ok (.iconst 0, 1) := by decide +kernel
theorem d_M_distance_101 : decode b_M_distance 101 = .ok (.istore 4, 2) := by decide +kernel
theorem d_M_distance_103 : decode b_M_distance 103 = .ok (.iload 4, 2) := by decide +kernel
theorem d_M_distance_105 : decode b_M_distance 105 = .ok (.bipush 32, 2) := by decide +kernel
theorem d_M_distance_107 : decode b_M_distance 107 = .ok (.if_icmp .ge 75, 3) := by decide +kernel
theorem d_M_distance_110 : decode b_M_distance 110 = .ok (.aload_n 0, 1) := by decide +kernel
theorem d_M_distance_111 : decode b_M_distance 111 = .ok (.getfield 22, 3) := by decide +kernel
theorem d_M_distance_114 : decode b_M_distance 114 = .ok (.iload 4, 2) := by decide +kernel
theorem d_M_distance_116 : decode b_M_distance 116 = .ok (.iaload, 1) := by decide +kernel
theorem d_M_distance_117 : decode b_M_distance 117 = .ok (.iload_n 3, 1) := by decide +kernel
theorem d_M_distance_118 : decode b_M_distance 118 = .ok (.if_icmp .eq 6, 3) := by decide +kernel
theorem d_M_distance_121 : decode b_M_distance 121 = .ok (.goto 55, 3) := by decide +kernel
theorem d_M_distance_124 : decode b_M_distance 124 = .ok (.iconst 0, 1) := by decide +kernel
theorem d_M_distance_125 : decode b_M_distance 125 = .ok (.istore 5, 2) := by decide +kernel
theorem d_M_distance_127 : decode b_M_distance 127 = .ok (.iload 5, 2) := by decide +kernel
theorem d_M_distance_129 : decode b_M_distance 129 = .ok (.bipush 32, 2) := by decide +kernel
theorem d_M_distance_131 : decode b_M_distance 131 = .ok (.if_icmp .ge 45, 3) := by decide +kernel
theorem d_M_distance_134 : decode b_M_distance 134 = .ok (.aload_n 0, 1) := by decide +kernel
theorem d_M_distance_135 : decode b_M_distance 135 = .ok (.getfield 22, 3) := by decide +kernel
theorem d_M_distance_138 : decode b_M_distance 138 = .ok (.iload 5, 2) := by decide +kernel
theorem d_M_distance_140 : decode b_M_distance 140 = .ok (.iaload, 1) := by decide +kernel
theorem d_M_distance_141 : decode b_M_distance 141 = .ok (.ifCond .ne 29, 3) := by decide +kernel
theorem d_M_distance_144 : decode b_M_distance 144 = .ok (.aload_n 0, 1) := by decide +kernel
theorem d_M_distance_145 : decode b_M_distance 145 = .ok (.getfield 9, 3) := by decide +kernel
theorem d_M_distance_148 : decode b_M_distance 148 = .ok (.bipush 32, 2) := by decide +kernel
theorem d_M_distance_150 : decode b_M_distance 150 = .ok (.iload 4, 2) := by decide +kernel
theorem d_M_distance_152 : decode b_M_distance 152 = .ok (.imul, 1) := by decide +kernel
theorem d_M_distance_153 : decode b_M_distance 153 = .ok (.iload 5, 2) := by decide +kernel
theorem d_M_distance_155 : decode b_M_distance 155 = .ok (.iadd, 1) := by decide +kernel
theorem d_M_distance_156 : decode b_M_distance 156 = .ok (.iaload, 1) := by decide +kernel
theorem d_M_distance_157 : decode b_M_distance 157 = .ok (.ifCond .le 13, 3) := by decide +kernel
theorem d_M_distance_160 : decode b_M_distance 160 = .ok (.aload_n 0, 1) := by decide +kernel
theorem d_M_distance_161 : decode b_M_distance 161 = .ok (.getfield 22, 3) := by decide +kernel
theorem d_M_distance_164 : decode b_M_distance 164 = .ok (.iload 5, 2) := by decide +kernel
theorem d_M_distance_166 : decode b_M_distance 166 = .ok (.iload_n 3, 1) := by decide +kernel
theorem d_M_distance_167 : decode b_M_distance 167 = .ok (.iconst 1, 1) := by decide +kernel
theorem d_M_distance_168 : decode b_M_distance 168 = .ok (.iadd, 1) := by decide +kernel
theorem d_M_distance_169 : decode b_M_distance 169 = .ok (.iastore, 1) := by decide +kernel
theorem d_M_distance_170 : decode b_M_distance 170 = .ok (.iinc 5 1, 3) := by decide +kernel
theorem d_M_distance_173 : decode b_M_distance 173 = .ok (.goto (-46), 3) := by decide +kernel
theorem d_M_distance_176 : decode b_M_distance 176 = .ok (.iinc 4 1, 3) := by decide +kernel
theorem d_M_distance_179 : decode b_M_distance 179 = .ok (.goto (-76), 3) := by decide +kernel
theorem d_M_distance_182 : decode b_M_distance 182 = .ok (.iinc 3 1, 3) := by decide +kernel
theorem d_M_distance_185 : decode b_M_distance 185 = .ok (.goto (-94), 3) := by decide +kernel
theorem d_M_distance_188 : decode b_M_distance 188 = .ok (.aload_n 0, 1) := by decide +kernel
theorem d_M_distance_189 : decode b_M_distance 189 = .ok (.getfield 22, 3) := by decide +kernel
theorem d_M_distance_192 : decode b_M_distance 192 = .ok (.iload_n 2, 1) := by decide +kernel
theorem d_M_distance_193 : decode b_M_distance 193 = .ok (.iaload, 1) := by decide +kernel
theorem d_M_distance_194 : decode b_M_distance 194 = .ok (.ireturn, 1) := by decide +kernel
theorem d_M_times_0 : decode b_M_times 0 = .ok (.aload_n 0, 1) := by decide +kernel
theorem d_M_times_1 : decode b_M_times 1 = .ok (.iload_n 1, 1) := by decide +kernel
theorem d_M_times_2 : decode b_M_times 2 = .ok (.invokestatic 36, 3) := by decide +kernel
theorem d_M_times_5 : decode b_M_times 5 = .ok (.ifCond .eq 14, 3) := by decide +kernel
theorem d_M_times_8 : decode b_M_times 8 = .ok (.iload_n 2, 1) := by decide +kernel
theorem d_M_times_9 : decode b_M_times 9 = .ok (.invokestatic 36, 3) := by decide +kernel
theorem d_M_times_12 : decode b_M_times 12 = .ok (.ifCond .eq 7, 3) := by decide +kernel
theorem d_M_times_15 : decode b_M_times 15 = .ok (.iconst 0, 1) := by decide +kernel
theorem d_M_times_16 : decode b_M_times 16 = .ok (.goto 4, 3) := by decide +kernel
theorem d_M_times_19 : decode b_M_times 19 = .ok (.iconst 1, 1) := by decide +kernel
theorem d_M_times_20 : decode b_M_times 20 = .ok (.putfield 32, 3) := by decide +kernel
theorem d_M_times_23 : decode b_M_times 23 = .ok (.aload_n 0, 1) := by decide +kernel
theorem d_M_times_24 : decode b_M_times 24 = .ok (.getfield 32, 3) := by decide +kernel
theorem d_M_times_27 : decode b_M_times 27 = .ok (.ifCond .le 7, 3) := by decide +kernel
theorem d_M_times_30 : decode b_M_times 30 = .ok (.iconst 0, 1) := by decide +kernel
theorem d_M_times_31 : decode b_M_times 31 = .ok (.goto 14, 3) := by decide +kernel
theorem d_M_times_34 : decode b_M_times 34 = .ok (.aload_n 0, 1) := by decide +kernel
theorem d_M_times_35 : decode b_M_times 35 = .ok (.getfield 9, 3) := by decide +kernel
theorem d_M_times_38 : decode b_M_times 38 = .ok (.bipush 32, 2) := by decide +kernel
theorem d_M_times_40 : decode b_M_times 40 = .ok (.iload_n 1, 1) := by decide +kernel
theorem d_M_times_41 : decode b_M_times 41 = .ok (.imul, 1) := by decide +kernel
theorem d_M_times_42 : decode b_M_times 42 = .ok (.iload_n 2, 1) := by decide +kernel
theorem d_M_times_43 : decode b_M_times 43 = .ok (.iadd, 1) := by decide +kernel
theorem d_M_times_44 : decode b_M_times 44 = .ok (.iaload, 1) := by decide +kernel
theorem d_M_times_45 : decode b_M_times 45 = .ok (.ireturn, 1) := by decide +kernel
theorem d_M_count_0 : decode b_M_count 0 = .ok (.aload_n 0, 1) := by decide +kernel
theorem d_M_count_1 : decode b_M_count 1 = .ok (.iconst 0, 1) := by decide +kernel
theorem d_M_count_2 : decode b_M_count 2 = .ok (.putfield 32, 3) := by decide +kernel
theorem d_M_count_5 : decode b_M_count 5 = .ok (.iconst 0, 1) := by decide +kernel
theorem d_M_count_6 : decode b_M_count 6 = .ok (.istore_n 2, 1) := by decide +kernel
theorem d_M_count_7 : decode b_M_count 7 = .ok (.iconst 0, 1) := by decide +kernel
theorem d_M_count_8 : decode b_M_count 8 = .ok (.istore_n 3, 1) := by decide +kernel
theorem d_M_count_9 : decode b_M_count 9 = .ok (.iconst 0, 1) := by decide +kernel
theorem d_M_count_10 : decode b_M_count 10 = .ok (.istore 4, 2) := by decide +kernel
theorem d_M_count_12 : decode b_M_count 12 = .ok (.iconst 0, 1) := by decide +kernel
theorem d_M_count_13 : decode b_M_count 13 = .ok (.istore 5, 2) := by decide +kernel
theorem d_M_count_15 : decode b_M_count 15 = .ok (.iconst 0, 1) := by decide +kernel
theorem d_M_count_16 : decode b_M_count 16 = .ok (.istore 6, 2) := by decide +kernel
theorem d_M_count_18 : decode b_M_count 18 = .ok (.iconst 0, 1) := by decide +kernel
theorem d_M_count_19 : decode b_M_count 19 = .ok (.istore 7, 2) := by decide +kernel
theorem d_M_count_21 : decode b_M_count 21 = .ok (.iload 7, 2) := by decide +kernel
theorem d_M_count_23 : decode b_M_count 23 = .ok (.sipush 1024, 3) := by decide +kernel
theorem d_M_count_26 : decode b_M_count 26 = .ok (.if_icmp .ge 45, 3) := by decide +kernel
theorem d_M_count_29 : decode b_M_count 29 = .ok (.aload_n 0, 1) := by decide +kernel
theorem d_M_count_30 : decode b_M_count 30 = .ok (.getfield 9, 3) := by decide +kernel
theorem d_M_count_33 : decode b_M_count 33 = .ok (.iload 7, 2) := by decide +kernel
theorem d_M_count_35 : decode b_M_count 35 = .ok (.iaload, 1) := by decide +kernel
theorem d_M_count_36 : decode b_M_count 36 = .ok (.ifCond .le 6, 3) := by decide +kernel
theorem d_M_count_39 : decode b_M_count 39 = .ok (.iinc 2 1, 3) := by decide +kernel
theorem d_M_count_42 : decode b_M_count 42 = .ok (.iload_n 3, 1) := by decide +kernel
theorem d_M_count_43 : decode b_M_count 43 = .ok (.aload_n 0, 1) := by decide +kernel
theorem d_M_count_44 : decode b_M_count 44 = .ok (.getfield 9, 3) := by decide +kernel
theorem d_M_count_47 : decode b_M_count 47 = .ok (.iload 7, 2) := by decide +kernel
theorem d_M_count_49 : decode b_M_count 49 = .ok (.iaload, 1) := by decide +kernel
theorem d_M_count_50 : decode b_M_count 50 = .ok (.iadd, 1) := by decide +kernel
theorem d_M_count_51 : decode b_M_count 51 = .ok (.istore_n 3, 1) := by decide +kernel
theorem d_M_count_52 : decode b_M_count 52 = .ok (.aload_n 0, 1) := by decide +kernel
theorem d_M_count_53 : decode b_M_count 53 = .ok (.getfield 25, 3) := by decide +kernel
theorem d_M_count_56 : decode b_M_count 56 = .ok (.iload 7, 2) := by decide +kernel
theorem d_M_count_58 : decode b_M_count 58 = .ok (.baload, 1) := by decide +kernel
theorem d_M_count_59 : decode b_M_count 59 = .ok (.ifCond .eq 6, 3) := by decide +kernel
theorem d_M_count_62 : decode b_M_count 62 = .ok (.iinc 4 1, 3) := by decide +kernel
theorem d_M_count_65 : decode b_M_count 65 = .ok (.iinc 7 1, 3) := by decide +kernel
theorem d_M_count_68 : decode b_M_count 68 = .ok (.goto (-47), 3) := by decide +kernel
theorem d_M_count_71 : decode b_M_count 71 = .ok (.iconst 0, 1) := by decide +kernel
theorem d_M_count_72 : decode b_M_count 72 = .ok (.istore 7, 2) := by decide +kernel
theorem d_M_count_74 : decode b_M_count 74 = .ok (.iload 7, 2) := by decide +kernel
theorem d_M_count_76 : decode b_M_count 76 = .ok (.bipush 32, 2) := by decide +kernel
theorem d_M_count_78 : decode b_M_count 78 = .ok (.if_icmp .ge 93, 3) := by decide +kernel
theorem d_M_count_81 : decode b_M_count 81 = .ok (.aload_n 0, 1) := by decide +kernel
theorem d_M_count_82 : decode b_M_count 82 = .ok (.getfield 25, 3) := by decide +kernel
theorem d_M_count_85 : decode b_M_count 85 = .ok (.bipush 32, 2) := by decide +kernel
theorem d_M_count_87 : decode b_M_count 87 = .ok (.iload 7, 2) := by decide +kernel
theorem d_M_count_89 : decode b_M_count 89 = .ok (.imul, 1) := by decide +kernel
theorem d_M_count_90 : decode b_M_count 90 = .ok (.iload 7, 2) := by decide +kernel
theorem d_M_count_92 : decode b_M_count 92 = .ok (.iadd, 1) := by decide +kernel
theorem d_M_count_93 : decode b_M_count 93 = .ok (.baload, 1) := by decide +kernel
theorem d_M_count_94 : decode b_M_count 94 = .ok (.ifCond .ne 6, 3) := by decide +kernel
theorem d_M_count_97 : decode b_M_count 97 = .ok (.goto 68, 3) := by decide +kernel
theorem d_M_count_100 : decode b_M_count 100 = .ok (.iinc 5 1, 3) := by decide +kernel
theorem d_M_count_103 : decode b_M_count 103 = .ok (.iconst 1, 1) := by decide +kernel
theorem d_M_count_104 : decode b_M_count 104 = .ok (.istore 8, 2) := by decide +kernel
theorem d_M_count_106 : decode b_M_count 106 = .ok (.iconst 0, 1) := by decide +kernel
theorem d_M_count_107 : decode b_M_count 107 = .ok (.istore 9, 2) := by decide +kernel
theorem d_M_count_109 : decode b_M_count 109 = .ok (.iload 9, 2) := by decide +kernel
theorem d_M_count_111 : decode b_M_count 111 = .ok (.iload 7, 2) := by decide +kernel
theorem d_M_count_113 : decode b_M_count 113 = .ok (.if_icmp .ge 44, 3) := by decide +kernel
theorem d_M_count_116 : decode b_M_count 116 = .ok (.aload_n 0, 1) := by decide +kernel
theorem d_M_count_117 : decode b_M_count 117 = .ok (.getfield 25, 3) := by decide +kernel
theorem d_M_count_120 : decode b_M_count 120 = .ok (.bipush 32, 2) := by decide +kernel
theorem d_M_count_122 : decode b_M_count 122 = .ok (.iload 7, 2) := by decide +kernel
theorem d_M_count_124 : decode b_M_count 124 = .ok (.imul, 1) := by decide +kernel
theorem d_M_count_125 : decode b_M_count 125 = .ok (.iload 9, 2) := by decide +kernel
theorem d_M_count_127 : decode b_M_count 127 = .ok (.iadd, 1) := by decide +kernel
theorem d_M_count_128 : decode b_M_count 128 = .ok (.baload, 1) := by decide +kernel
theorem d_M_count_129 : decode b_M_count 129 = .ok (.ifCond .eq 22, 3) := by decide +kernel
theorem d_M_count_132 : decode b_M_count 132 = .ok (.aload_n 0, 1) := by decide +kernel
theorem d_M_count_133 : decode b_M_count 133 = .ok (.getfield 25, 3) := by decide +kernel
theorem d_M_count_136 : decode b_M_count 136 = .ok (.bipush 32, 2) := by decide +kernel
theorem d_M_count_138 : decode b_M_count 138 = .ok (.iload 9, 2) := by decide +kernel
theorem d_M_count_140 : decode b_M_count 140 = .ok (.imul, 1) := by decide +kernel
theorem d_M_count_141 : decode b_M_count 141 = .ok (.iload 7, 2) := by decide +kernel
theorem d_M_count_143 : decode b_M_count 143 = .ok (.iadd, 1) := by decide +kernel
theorem d_M_count_144 : decode b_M_count 144 = .ok (.baload, 1) := by decide +kernel
theorem d_M_count_145 : decode b_M_count 145 = .ok (.ifCond .eq 6, 3) := by decide +kernel
theorem d_M_count_148 : decode b_M_count 148 = .ok (.iconst 0, 1) := by decide +kernel
theorem d_M_count_149 : decode b_M_count 149 = .ok (.istore 8, 2) := by decide +kernel
theorem d_M_count_151 : decode b_M_count 151 = .ok (.iinc 9 1, 3) := by decide +kernel
theorem d_M_count_154 : decode b_M_count 154 = .ok (.goto (-45), 3) := by decide +kernel
theorem d_M_count_157 : decode b_M_count 157 = .ok (.iload 8, 2) := by decide +kernel
theorem d_M_count_159 : decode b_M_count 159 = .ok (.ifCond .eq 6, 3) := by decide +kernel
theorem d_M_count_162 : decode b_M_count 162 = .ok (.iinc 6 1, 3) := by decide +kernel
theorem d_M_count_165 : decode b_M_count 165 = .ok (.iinc 7 1, 3) := by decide +kernel
theorem d_M_count_168 : decode b_M_count 168 = .ok (.goto (-94), 3) := by decide +kernel
theorem d_M_count_171 : decode b_M_count 171 = .ok (.iload_n 1, 1) := by decide +kernel
theorem d_M_count_172 : decode b_M_count 172 = .ok (.tableswitch 78 0 7 #[48, 50, 52, 55, 60, 66, 72, 75], 48) := by decide +kernel
theorem d_M_count_220 : decode b_M_count 220 = .ok (.iload_n 2, 1) := by decide +kernel
theorem d_M_count_221 : decode b_M_count 221 = .ok (.ireturn, 1) := by decide +kernel
theorem d_M_count_222 : decode b_M_count 222 = .ok (.iload_n 3, 1) := by decide +kernel
theorem d_M_count_223 : decode b_M_count 223 = .ok (.ireturn, 1) := by decide +kernel
theorem d_M_count_224 : decode b_M_count 224 = .ok (.iload 4, 2) := by decide +kernel
theorem d_M_count_226 : decode b_M_count 226 = .ok (.ireturn, 1) := by decide +kernel
theorem d_M_count_227 : decode b_M_count 227 = .ok (.aload_n 0, 1) := by decide +kernel
theorem d_M_count_228 : decode b_M_count 228 = .ok (.getfield 40, 3) := by decide +kernel
theorem d_M_count_231 : decode b_M_count 231 = .ok (.ireturn, 1) := by decide +kernel
theorem d_M_count_232 : decode b_M_count 232 = .ok (.aload_n 0, 1) := by decide +kernel
theorem d_M_count_233 : decode b_M_count 233 = .ok (.iconst 1, 1) := by decide +kernel
theorem d_M_count_234 : decode b_M_count 234 = .ok (.invokevirtual 43, 3) := by decide +kernel
theorem d_M_count_237 : decode b_M_count 237 = .ok (.ireturn, 1) := by decide +kernel
theorem d_M_count_238 : decode b_M_count 238 = .ok (.aload_n 0, 1) := by decide +kernel
theorem d_M_count_239 : decode b_M_count 239 = .ok (.iconst 0, 1) := by decide +kernel
theorem d_M_count_240 : decode b_M_count 240 = .ok (.invokevirtual 43, 3) := by decide +kernel
theorem d_M_count_243 : decode b_M_count 243 = .ok (.ireturn, 1) := by decide +kernel
theorem d_M_count_244 : decode b_M_count 244 = .ok (.iload 5, 2) := by decide +kernel
theorem d_M_count_246 : decode b_M_count 246 = .ok (.ireturn, 1) := by decide +kernel
theorem d_M_count_247 : decode b_M_count 247 = .ok (.iload 6, 2) := by decide +kernel
theorem d_M_count_249 : decode b_M_count 249 = .ok (.ireturn, 1) := by decide +kernel
theorem d_M_count_250 : decode b_M_count 250 = .ok (.iconst (-1), 1) := by decide +kernel
theorem d_M_count_251 : decode b_M_count 251 = .ok (.ireturn, 1) := by decide +kernel
end
section
set_option maxHeartbeats 4000000 in
set_option maxRecDepth 100000 in
theorem c_M_isVertex (l : Launch) (dC : Nat → ClassId) (dI : Nat → Nat → Nat) (cI cZ cJ : ClassId) (sz : Nat) (x : Int32) : Met l y_M_isVertex (.code y_M_isVertex b_M_isVertex 1 (some .boolean) :: WT) { frames := 0, cells := 0, slots := 0, locals := 0 } (va_Pc [.int x] (rk_pre (dC, dI) [(cI, .int), (cZ, .boolean), (cJ, .long)] sz [])) (va_Qi (fun (r : Int32) (u : Unit) => r = zI (rk_v x)) (fun _ s9 => rk_at (dC, dI) [(cI, .int), (cZ, .boolean), (cJ, .long)] (va_A [] sz) [] s9) (va_A [] sz)) 0 0 (va_A [] sz) := by
  refine rk_body (by decide) (Nat.le_of_ble_eq_true rfl) ?_
  intro p e s m below meth c hx hb hml hr htw hown hlocks hin hsz hP hK hD hA hS ls hl
  have hown : s.vm.findClass R_M = some m.cls := hown
  have hl : lv_has ls 1 [(0, .int x)] := hl
  refine lv_iload_n hx hb d_M_isVertex_0 rfl (lv_at hl 0 rfl) ?_
  refine lv_if_lt (tgt := 14) hx hb d_M_isVertex_1 (by decide) (fun hc => ?_) (fun hc => ?_)
  · refine lv_iconst (v := nI 0) hx hb d_M_isVertex_14 (by decide) ?_
    refine rk_top (y := zI (rk_v x)) (by rw [rk_v_neg hc]; rfl) ?_
    exact rk_zret (()) hx hb hr hlocks (rfl) rfl hP hK hD hS d_M_isVertex_15
  · refine lv_iload_n hx hb d_M_isVertex_4 rfl (lv_at hl 0 rfl) ?_
    refine lv_bipush (v := nI 32) hx hb d_M_isVertex_5 (by decide) ?_
    refine lv_icmp_ge (tgt := 14) hx hb d_M_isVertex_7 (by decide) (fun hc2 => ?_) (fun hc2 => ?_)
    · refine lv_iconst (v := nI 0) hx hb d_M_isVertex_14 (by decide) ?_
      refine rk_top (y := zI (rk_v x)) (by rw [rk_v_big hc2]; rfl) ?_
      exact rk_zret (()) hx hb hr hlocks (rfl) rfl hP hK hD hS d_M_isVertex_15
    · refine lv_iconst (v := nI 1) hx hb d_M_isVertex_10 (by decide) ?_
      refine lv_goto (tgt := 15) hx hb d_M_isVertex_11 (by decide) ?_
      refine rk_top (y := zI (rk_v x)) (by rw [rk_v_ok hc hc2]; rfl) ?_
      exact rk_zret (()) hx hb hr hlocks (rfl) rfl hP hK hD hS d_M_isVertex_15
set_option maxHeartbeats 4000000 in
set_option maxRecDepth 100000 in
theorem c_M_thrown (l : Launch) (dC : Nat → ClassId) (dI : Nat → Nat → Nat) (cI cZ cJ : ClassId) (sz : Nat) (h0 qt qn qp qb qf qh qd : Nat) (th : Int32) (g : Nat) : Met l y_M_thrown (.code y_M_thrown b_M_thrown 1 (some .int) :: WT) { frames := 0, cells := 0, slots := 0, locals := 0 } (va_Pc [.ref h0] (rk_pre (dC, dI) [(cI, .int), (cZ, .boolean), (cJ, .long)] sz [(h0, .inr (2, [.int th, .int (nI g), .ref qt, .ref qn, .ref qp, .ref qb, .ref qf, .ref qh, .ref qd]))])) (va_Qi (fun (r : Int32) (u : Unit) => r = th) (fun _ s9 => rk_at (dC, dI) [(cI, .int), (cZ, .boolean), (cJ, .long)] (va_A [(h0, .inr (2, [.int th, .int (nI g), .ref qt, .ref qn, .ref qp, .ref qb, .ref qf, .ref qh, .ref qd]))] sz) [(h0, .inr (2, [.int th, .int (nI g), .ref qt, .ref qn, .ref qp, .ref qb, .ref qf, .ref qh, .ref qd]))] s9) (va_A [(h0, .inr (2, [.int th, .int (nI g), .ref qt, .ref qn, .ref qp, .ref qb, .ref qf, .ref qh, .ref qd]))] sz)) 0 0 (va_A [(h0, .inr (2, [.int th, .int (nI g), .ref qt, .ref qn, .ref qp, .ref qb, .ref qf, .ref qh, .ref qd]))] sz) := by
  refine rk_body (by decide) (Nat.le_of_ble_eq_true rfl) ?_
  intro p e s m below meth c hx hb hml hr htw hown hlocks hin hsz hP hK hD hA hS ls hl
  have hown : s.vm.findClass R_M = some m.cls := hown
  have hl : lv_has ls 1 [(0, .ref h0)] := hl
  refine lv_aload_n hx hb d_M_thrown_0 rfl (lv_at hl 0 rfl) ?_
  refine va_get (D := (dC, dI)) (ci := 2) (v := .int th) (C := R_M) (T := F_M) (N := 9) hx hb htw u_M hown hK hP 0 rfl rfl 0 (by decide) (htw _ l_M_32) (fun _ h9 => h9) rfl d_M_thrown_1 ?_
  exact rk_iret (()) hx hb hr hlocks (rfl) rfl hP hK hD hS d_M_thrown_4
set_option maxHeartbeats 4000000 in
set_option maxRecDepth 100000 in
theorem c_M_change (l : Launch) (dC : Nat → ClassId) (dI : Nat → Nat → Nat) (cI cZ cJ : ClassId) (sz : Nat) (h0 qt qn qp qb qf qh qd : Nat) (th : Int32) (g : Nat) (hg : g ≤ 60) (pl by_ : Nat → Int32) (x y : Int32) (z : Bool) : Met l y_M_change (.code y_M_change b_M_change 4 (some .int) :: WT) { frames := 1, cells := 0, slots := 0, locals := 20 } (va_Pc [.ref h0, .int x, .int y, .int (zI z)] (rk_pre (dC, dI) [(cI, .int), (cZ, .boolean), (cJ, .long)] sz [(h0, .inr (2, [.int th, .int (nI g), .ref qt, .ref qn, .ref qp, .ref qb, .ref qf, .ref qh, .ref qd])), (qp, .inl (cI, 60, .inl pl)), (qb, .inl (cI, 60, .inl by_))])) (va_Qi (fun (r : Int32) (u : Int32 × Nat × (Nat → Int32) × (Nat → Int32)) => rk_chM g pl by_ x y z r u) (fun u s9 => rk_at (dC, dI) [(cI, .int), (cZ, .boolean), (cJ, .long)] (va_A [(h0, .inr (2, [.int th, .int (nI g), .ref qt, .ref qn, .ref qp, .ref qb, .ref qf, .ref qh, .ref qd])), (qp, .inl (cI, 60, .inl pl)), (qb, .inl (cI, 60, .inl by_))] sz) [(h0, .inr (2, [.int (u.1), .int (nI u.2.1), .ref qt, .ref qn, .ref qp, .ref qb, .ref qf, .ref qh, .ref qd])), (qp, .inl (cI, 60, .inl u.2.2.1)), (qb, .inl (cI, 60, .inl u.2.2.2))] s9) (va_A [(h0, .inr (2, [.int th, .int (nI g), .ref qt, .ref qn, .ref qp, .ref qb, .ref qf, .ref qh, .ref qd])), (qp, .inl (cI, 60, .inl pl)), (qb, .inl (cI, 60, .inl by_))] sz)) 0 0 (va_A [(h0, .inr (2, [.int th, .int (nI g), .ref qt, .ref qn, .ref qp, .ref qb, .ref qf, .ref qh, .ref qd])), (qp, .inl (cI, 60, .inl pl)), (qb, .inl (cI, 60, .inl by_))] sz) := by
  refine rk_body (by decide) (Nat.le_of_ble_eq_true rfl) ?_
  intro p e s m below meth c hx hb hml hr htw hown hlocks hin hsz hP hK hD hA hS ls hl
  have hown : s.vm.findClass R_M = some m.cls := hown
  have hl : lv_has ls 4 [(0, .ref h0), (1, .int x), (2, .int y), (3, .int (zI z))] := hl
  refine lv_aload_n hx hb d_M_change_0 rfl (lv_at hl 0 rfl) ?_
  refine lv_iload_n hx hb d_M_change_1 rfl (lv_at hl 1 rfl) ?_
  refine rk_backi (wc := []) (wr := [(h0, .inr (2, [.int th, .int (nI g), .ref qt, .ref qn, .ref qp, .ref qb, .ref qf, .ref qh, .ref qd])), (qp, .inl (cI, 60, .inl pl)), (qb, .inl (cI, 60, .inl by_))]) (va_runS (As := [.int x]) (rest := [.ref h0]) ⟨hx, hb, hml, hown, htw⟩ (c_M_isVertex l dC dI cI cZ cJ _ x) (rk_cwS 1 htw gc_M_change_2 (by decide +kernel) ⟨(Nat.le_of_ble_eq_true rfl), (Nat.le_of_ble_eq_true rfl)⟩) (⟨rk_blind, rk_give (rk_psub (isC := []) hP rfl) hK (hD.sub [] rfl rfl)⟩) rfl rfl hl.1 rfl (lv_room (Nat.le_of_ble_eq_true rfl)) d_M_change_2 ⟨(Nat.le_of_ble_eq_true rfl), (Nat.le_of_ble_eq_true rfl)⟩) hP hD hS hA [] [0, 1, 2] rfl rfl rfl (by decide) (fun x5 u5 H locs hp hP hD hS => ?_)
  subst hp
  have hP : va_P (dC, dI) classes [(h0, .inr (2, [.int th, .int (nI g), .ref qt, .ref qn, .ref qp, .ref qb, .ref qf, .ref qh, .ref qd])), (qp, .inl (cI, 60, .inl pl)), (qb, .inl (cI, 60, .inl by_))] H := hP
  have hD : va_D _ [(h0, .inr (2, [.int th, .int (nI g), .ref qt, .ref qn, .ref qp, .ref qb, .ref qf, .ref qh, .ref qd])), (qp, .inl (cI, 60, .inl pl)), (qb, .inl (cI, 60, .inl by_))] := hD
  refine lv_if_eq (tgt := 15) hx hb d_M_change_5 (by decide) (fun hc => ?_) (fun hc => ?_)
  · have hv : (rk_v x && rk_v y) = false := by rw [zI_0.mp hc]; rfl
    refine lv_iconst (v := nI 1) hx hb d_M_change_15 (by decide) ?_
    refine lv_goto (tgt := 33) hx hb d_M_change_16 (by decide) ?_
    refine va_put (D := (dC, dI)) (ci := 2) (v := .int (nI 1)) (ty := .int) (C := R_M) (T := F_M) (N := 9) hx hb htw u_M t_M t_M_ok n_M hown hK hP hD hS 0 rfl rfl 0 (by decide) (htw _ l_M_32) (fun _ h9 => h9) rfl (by decide +kernel) rfl rfl (Nat.le_of_ble_eq_true rfl) d_M_change_33 (fun H locs hP hD hS => ?_)
    have hP : va_P (dC, dI) classes [(h0, .inr (2, [.int (nI 1), .int (nI g), .ref qt, .ref qn, .ref qp, .ref qb, .ref qf, .ref qh, .ref qd])), (qp, .inl (cI, 60, .inl pl)), (qb, .inl (cI, 60, .inl by_))] H := hP
    have hD : va_D _ [(h0, .inr (2, [.int (nI 1), .int (nI g), .ref qt, .ref qn, .ref qp, .ref qb, .ref qf, .ref qh, .ref qd])), (qp, .inl (cI, 60, .inl pl)), (qb, .inl (cI, 60, .inl by_))] := hD
    refine lv_aload_n hx hb d_M_change_36 rfl (lv_at hl 0 rfl) ?_
    refine va_get (D := (dC, dI)) (ci := 2) (v := .int (nI 1)) (C := R_M) (T := F_M) (N := 9) hx hb htw u_M hown hK hP 0 rfl rfl 0 (by decide) (htw _ l_M_32) (fun _ h9 => h9) rfl d_M_change_37 ?_
    refine lv_if_le (tgt := 45) hx hb d_M_change_40 (by decide) (fun hd1 => ?_) (fun hd1 => ?_)
    · exact absurd hd1 (by decide)
    · refine lv_iconst (v := nI 0) hx hb d_M_change_43 (by decide) ?_
      exact rk_iret ((nI 1, g, pl, by_)) hx hb hr hlocks (Or.inl ⟨hv, rfl, rfl⟩) rfl hP hK hD hS d_M_change_44
  · refine lv_iload_n hx hb d_M_change_8 rfl (lv_at hl 2 rfl) ?_
    refine rk_backi (wc := []) (wr := [(h0, .inr (2, [.int th, .int (nI g), .ref qt, .ref qn, .ref qp, .ref qb, .ref qf, .ref qh, .ref qd])), (qp, .inl (cI, 60, .inl pl)), (qb, .inl (cI, 60, .inl by_))]) (va_runS (As := [.int y]) (rest := [.ref h0]) ⟨hx, hb, hml, hown, htw⟩ (c_M_isVertex l dC dI cI cZ cJ _ y) (rk_cwS 1 htw gc_M_change_9 (by decide +kernel) ⟨(Nat.le_of_ble_eq_true rfl), (Nat.le_of_ble_eq_true rfl)⟩) (⟨rk_blind, rk_give (rk_psub (isC := []) hP rfl) hK (hD.sub [] rfl rfl)⟩) rfl rfl hl.1 rfl (lv_room (Nat.le_of_ble_eq_true rfl)) d_M_change_9 ⟨(Nat.le_of_ble_eq_true rfl), (Nat.le_of_ble_eq_true rfl)⟩) hP hD hS hA [] [0, 1, 2] rfl rfl rfl (by decide) (fun x6 u6 H locs hp hP hD hS => ?_)
    subst hp
    have hP : va_P (dC, dI) classes [(h0, .inr (2, [.int th, .int (nI g), .ref qt, .ref qn, .ref qp, .ref qb, .ref qf, .ref qh, .ref qd])), (qp, .inl (cI, 60, .inl pl)), (qb, .inl (cI, 60, .inl by_))] H := hP
    have hD : va_D _ [(h0, .inr (2, [.int th, .int (nI g), .ref qt, .ref qn, .ref qp, .ref qb, .ref qf, .ref qh, .ref qd])), (qp, .inl (cI, 60, .inl pl)), (qb, .inl (cI, 60, .inl by_))] := hD
    refine lv_if_ne (tgt := 19) hx hb d_M_change_12 (by decide) (fun hc2 => ?_) (fun hc2 => ?_)
    · obtain ⟨a, ha, rfl⟩ := rk_v_t (zI_n.mp hc)
      obtain ⟨b, hb32, rfl⟩ := rk_v_t (zI_n.mp hc2)
      refine lv_aload_n hx hb d_M_change_19 rfl (lv_at hl 0 rfl) ?_
      refine va_get (D := (dC, dI)) (ci := 2) (v := .int (nI g)) (C := R_M) (T := F_M) (N := 9) hx hb htw u_M hown hK hP 0 rfl rfl 1 (by decide) (htw _ l_M_40) (fun _ h9 => h9) rfl d_M_change_20 ?_
      refine lv_bipush (v := nI 60) hx hb d_M_change_23 (by decide) ?_
      refine lv_icmp_ne (tgt := 32) hx hb d_M_change_25 (by decide) (fun hc3 => ?_) (fun hc3 => ?_)
      · have hgn : g ≠ 60 := fun z9 => hc3 (by rw [z9])
        refine lv_iconst (v := nI 0) hx hb d_M_change_32 (by decide) ?_
        refine va_put (D := (dC, dI)) (ci := 2) (v := .int (nI 0)) (ty := .int) (C := R_M) (T := F_M) (N := 9) hx hb htw u_M t_M t_M_ok n_M hown hK hP hD hS 0 rfl rfl 0 (by decide) (htw _ l_M_32) (fun _ h9 => h9) rfl (by decide +kernel) rfl rfl (Nat.le_of_ble_eq_true rfl) d_M_change_33 (fun H locs hP hD hS => ?_)
        have hP : va_P (dC, dI) classes [(h0, .inr (2, [.int (nI 0), .int (nI g), .ref qt, .ref qn, .ref qp, .ref qb, .ref qf, .ref qh, .ref qd])), (qp, .inl (cI, 60, .inl pl)), (qb, .inl (cI, 60, .inl by_))] H := hP
        have hD : va_D _ [(h0, .inr (2, [.int (nI 0), .int (nI g), .ref qt, .ref qn, .ref qp, .ref qb, .ref qf, .ref qh, .ref qd])), (qp, .inl (cI, 60, .inl pl)), (qb, .inl (cI, 60, .inl by_))] := hD
        refine lv_aload_n hx hb d_M_change_36 rfl (lv_at hl 0 rfl) ?_
        refine va_get (D := (dC, dI)) (ci := 2) (v := .int (nI 0)) (C := R_M) (T := F_M) (N := 9) hx hb htw u_M hown hK hP 0 rfl rfl 0 (by decide) (htw _ l_M_32) (fun _ h9 => h9) rfl d_M_change_37 ?_
        refine lv_if_le (tgt := 45) hx hb d_M_change_40 (by decide) (fun hd1 => ?_) (fun hd1 => ?_)
        · refine lv_aload_n hx hb d_M_change_45 rfl (lv_at hl 0 rfl) ?_
          refine va_get (D := (dC, dI)) (ci := 2) (v := .ref qp) (C := R_M) (T := F_M) (N := 9) hx hb htw u_M hown hK hP 0 rfl rfl 4 (by decide) (htw _ l_M_16) (fun _ h9 => h9) rfl d_M_change_46 ?_
          refine lv_aload_n hx hb d_M_change_49 rfl (lv_at hl 0 rfl) ?_
          refine va_get (D := (dC, dI)) (ci := 2) (v := .int (nI g)) (C := R_M) (T := F_M) (N := 9) hx hb htw u_M hown hK hP 0 rfl rfl 1 (by decide) (htw _ l_M_40) (fun _ h9 => h9) rfl d_M_change_50 ?_
          refine lv_bipush (v := nI 32) hx hb d_M_change_53 (by decide) ?_
          refine lv_iload_n hx hb d_M_change_55 rfl (lv_at hl 1 rfl) ?_
          refine lv_imul hx hb d_M_change_56 ?_
          refine rk_top (y := nI (32 * a)) (pk_mul 32 a) ?_
          refine lv_iload_n hx hb d_M_change_57 rfl (lv_at hl 2 rfl) ?_
          refine lv_iadd hx hb d_M_change_58 ?_
          refine rk_top (y := nI (32 * a + b)) (nI_add (32 * a) b) ?_
          refine va_iast hx hb hK hP hD hS 1 0 rfl rfl (vp_in_nI (n := g) (show g < 60 by omega) (by decide)) d_M_change_59 (fun H locs hP hD hS => ?_)
          rw [nI_clamp (show g < 2 ^ 31 by omega)] at hP hD
          have hP : va_P (dC, dI) classes [(h0, .inr (2, [.int (nI 0), .int (nI g), .ref qt, .ref qn, .ref qp, .ref qb, .ref qf, .ref qh, .ref qd])), (qp, .inl (cI, 60, .inl (upd pl g (nI (32 * a + b))))), (qb, .inl (cI, 60, .inl by_))] H := hP
          have hD : va_D _ [(h0, .inr (2, [.int (nI 0), .int (nI g), .ref qt, .ref qn, .ref qp, .ref qb, .ref qf, .ref qh, .ref qd])), (qp, .inl (cI, 60, .inl (upd pl g (nI (32 * a + b))))), (qb, .inl (cI, 60, .inl by_))] := hD
          refine lv_aload_n hx hb d_M_change_60 rfl (lv_at hl 0 rfl) ?_
          refine va_get (D := (dC, dI)) (ci := 2) (v := .ref qb) (C := R_M) (T := F_M) (N := 9) hx hb htw u_M hown hK hP 0 rfl rfl 5 (by decide) (htw _ l_M_19) (fun _ h9 => h9) rfl d_M_change_61 ?_
          refine lv_aload_n hx hb d_M_change_64 rfl (lv_at hl 0 rfl) ?_
          refine va_get (D := (dC, dI)) (ci := 2) (v := .int (nI g)) (C := R_M) (T := F_M) (N := 9) hx hb htw u_M hown hK hP 0 rfl rfl 1 (by decide) (htw _ l_M_40) (fun _ h9 => h9) rfl d_M_change_65 ?_
          refine lv_iload_n hx hb d_M_change_68 rfl (lv_at hl 3 rfl) ?_
          refine lv_if_eq (tgt := 76) hx hb d_M_change_69 (by decide) (fun hd2 => ?_) (fun hd2 => ?_)
          · have hd2 := zI_0.mp hd2
            subst hd2
            refine lv_iconst (v := -1) hx hb d_M_change_76 (by decide) ?_
            refine va_iast hx hb hK hP hD hS 2 0 rfl rfl (vp_in_nI (n := g) (show g < 60 by omega) (by decide)) d_M_change_77 (fun H locs hP hD hS => ?_)
            rw [nI_clamp (show g < 2 ^ 31 by omega)] at hP hD
            have hP : va_P (dC, dI) classes [(h0, .inr (2, [.int (nI 0), .int (nI g), .ref qt, .ref qn, .ref qp, .ref qb, .ref qf, .ref qh, .ref qd])), (qp, .inl (cI, 60, .inl (upd pl g (nI (32 * a + b))))), (qb, .inl (cI, 60, .inl (upd by_ g (-1))))] H := hP
            have hD : va_D _ [(h0, .inr (2, [.int (nI 0), .int (nI g), .ref qt, .ref qn, .ref qp, .ref qb, .ref qf, .ref qh, .ref qd])), (qp, .inl (cI, 60, .inl (upd pl g (nI (32 * a + b))))), (qb, .inl (cI, 60, .inl (upd by_ g (-1))))] := hD
            refine lv_aload_n hx hb d_M_change_78 rfl (lv_at hl 0 rfl) ?_
            refine lv_dup hx hb d_M_change_79 rfl ?_
            refine va_get (D := (dC, dI)) (ci := 2) (v := .int (nI g)) (C := R_M) (T := F_M) (N := 9) hx hb htw u_M hown hK hP 0 rfl rfl 1 (by decide) (htw _ l_M_40) (fun _ h9 => h9) rfl d_M_change_80 ?_
            refine lv_iconst (v := nI 1) hx hb d_M_change_83 (by decide) ?_
            refine lv_iadd hx hb d_M_change_84 ?_
            refine rk_top (y := nI (g + 1)) (nI_add g 1) ?_
            refine va_put (D := (dC, dI)) (ci := 2) (v := .int (nI (g + 1))) (ty := .int) (C := R_M) (T := F_M) (N := 9) hx hb htw u_M t_M t_M_ok n_M hown hK hP hD hS 0 rfl rfl 1 (by decide) (htw _ l_M_40) (fun _ h9 => h9) rfl (by decide +kernel) rfl rfl (Nat.le_of_ble_eq_true rfl) d_M_change_85 (fun H locs hP hD hS => ?_)
            have hP : va_P (dC, dI) classes [(h0, .inr (2, [.int (nI 0), .int (nI (g + 1)), .ref qt, .ref qn, .ref qp, .ref qb, .ref qf, .ref qh, .ref qd])), (qp, .inl (cI, 60, .inl (upd pl g (nI (32 * a + b))))), (qb, .inl (cI, 60, .inl (upd by_ g (-1))))] H := hP
            have hD : va_D _ [(h0, .inr (2, [.int (nI 0), .int (nI (g + 1)), .ref qt, .ref qn, .ref qp, .ref qb, .ref qf, .ref qh, .ref qd])), (qp, .inl (cI, 60, .inl (upd pl g (nI (32 * a + b))))), (qb, .inl (cI, 60, .inl (upd by_ g (-1))))] := hD
            refine lv_aload_n hx hb d_M_change_88 rfl (lv_at hl 0 rfl) ?_
            refine va_get (D := (dC, dI)) (ci := 2) (v := .int (nI (g + 1))) (C := R_M) (T := F_M) (N := 9) hx hb htw u_M hown hK hP 0 rfl rfl 1 (by decide) (htw _ l_M_40) (fun _ h9 => h9) rfl d_M_change_89 ?_
            exact rk_iret ((nI 0, g + 1, upd pl g (nI (32 * a + b)), upd by_ g (-1))) hx hb hr hlocks (Or.inr (Or.inr ⟨a, b, ha, hb32, rfl, rfl, by omega, rfl, rfl⟩)) rfl hP hK hD hS d_M_change_92
          · have hd2 := zI_n.mp hd2
            subst hd2
            refine lv_iconst (v := nI 1) hx hb d_M_change_72 (by decide) ?_
            refine lv_goto (tgt := 77) hx hb d_M_change_73 (by decide) ?_
            refine va_iast hx hb hK hP hD hS 2 0 rfl rfl (vp_in_nI (n := g) (show g < 60 by omega) (by decide)) d_M_change_77 (fun H locs hP hD hS => ?_)
            rw [nI_clamp (show g < 2 ^ 31 by omega)] at hP hD
            have hP : va_P (dC, dI) classes [(h0, .inr (2, [.int (nI 0), .int (nI g), .ref qt, .ref qn, .ref qp, .ref qb, .ref qf, .ref qh, .ref qd])), (qp, .inl (cI, 60, .inl (upd pl g (nI (32 * a + b))))), (qb, .inl (cI, 60, .inl (upd by_ g (nI 1))))] H := hP
            have hD : va_D _ [(h0, .inr (2, [.int (nI 0), .int (nI g), .ref qt, .ref qn, .ref qp, .ref qb, .ref qf, .ref qh, .ref qd])), (qp, .inl (cI, 60, .inl (upd pl g (nI (32 * a + b))))), (qb, .inl (cI, 60, .inl (upd by_ g (nI 1))))] := hD
            refine lv_aload_n hx hb d_M_change_78 rfl (lv_at hl 0 rfl) ?_
            refine lv_dup hx hb d_M_change_79 rfl ?_
            refine va_get (D := (dC, dI)) (ci := 2) (v := .int (nI g)) (C := R_M) (T := F_M) (N := 9) hx hb htw u_M hown hK hP 0 rfl rfl 1 (by decide) (htw _ l_M_40) (fun _ h9 => h9) rfl d_M_change_80 ?_
            refine lv_iconst (v := nI 1) hx hb d_M_change_83 (by decide) ?_
            refine lv_iadd hx hb d_M_change_84 ?_
            refine rk_top (y := nI (g + 1)) (nI_add g 1) ?_
            refine va_put (D := (dC, dI)) (ci := 2) (v := .int (nI (g + 1))) (ty := .int) (C := R_M) (T := F_M) (N := 9) hx hb htw u_M t_M t_M_ok n_M hown hK hP hD hS 0 rfl rfl 1 (by decide) (htw _ l_M_40) (fun _ h9 => h9) rfl (by decide +kernel) rfl rfl (Nat.le_of_ble_eq_true rfl) d_M_change_85 (fun H locs hP hD hS => ?_)
            have hP : va_P (dC, dI) classes [(h0, .inr (2, [.int (nI 0), .int (nI (g + 1)), .ref qt, .ref qn, .ref qp, .ref qb, .ref qf, .ref qh, .ref qd])), (qp, .inl (cI, 60, .inl (upd pl g (nI (32 * a + b))))), (qb, .inl (cI, 60, .inl (upd by_ g (nI 1))))] H := hP
            have hD : va_D _ [(h0, .inr (2, [.int (nI 0), .int (nI (g + 1)), .ref qt, .ref qn, .ref qp, .ref qb, .ref qf, .ref qh, .ref qd])), (qp, .inl (cI, 60, .inl (upd pl g (nI (32 * a + b))))), (qb, .inl (cI, 60, .inl (upd by_ g (nI 1))))] := hD
            refine lv_aload_n hx hb d_M_change_88 rfl (lv_at hl 0 rfl) ?_
            refine va_get (D := (dC, dI)) (ci := 2) (v := .int (nI (g + 1))) (C := R_M) (T := F_M) (N := 9) hx hb htw u_M hown hK hP 0 rfl rfl 1 (by decide) (htw _ l_M_40) (fun _ h9 => h9) rfl d_M_change_89 ?_
            exact rk_iret ((nI 0, g + 1, upd pl g (nI (32 * a + b)), upd by_ g (nI 1))) hx hb hr hlocks (Or.inr (Or.inr ⟨a, b, ha, hb32, rfl, rfl, by omega, rfl, rfl⟩)) rfl hP hK hD hS d_M_change_92
        · exact absurd (by decide : (nI 0 : Int32) ≤ 0) hd1
      · have hg60 : g = 60 := (nI_eq (by omega) (by omega)).mp hc3
        refine lv_iconst (v := nI 2) hx hb d_M_change_28 (by decide) ?_
        refine lv_goto (tgt := 33) hx hb d_M_change_29 (by decide) ?_
        refine va_put (D := (dC, dI)) (ci := 2) (v := .int (nI 2)) (ty := .int) (C := R_M) (T := F_M) (N := 9) hx hb htw u_M t_M t_M_ok n_M hown hK hP hD hS 0 rfl rfl 0 (by decide) (htw _ l_M_32) (fun _ h9 => h9) rfl (by decide +kernel) rfl rfl (Nat.le_of_ble_eq_true rfl) d_M_change_33 (fun H locs hP hD hS => ?_)
        have hP : va_P (dC, dI) classes [(h0, .inr (2, [.int (nI 2), .int (nI g), .ref qt, .ref qn, .ref qp, .ref qb, .ref qf, .ref qh, .ref qd])), (qp, .inl (cI, 60, .inl pl)), (qb, .inl (cI, 60, .inl by_))] H := hP
        have hD : va_D _ [(h0, .inr (2, [.int (nI 2), .int (nI g), .ref qt, .ref qn, .ref qp, .ref qb, .ref qf, .ref qh, .ref qd])), (qp, .inl (cI, 60, .inl pl)), (qb, .inl (cI, 60, .inl by_))] := hD
        refine lv_aload_n hx hb d_M_change_36 rfl (lv_at hl 0 rfl) ?_
        refine va_get (D := (dC, dI)) (ci := 2) (v := .int (nI 2)) (C := R_M) (T := F_M) (N := 9) hx hb htw u_M hown hK hP 0 rfl rfl 0 (by decide) (htw _ l_M_32) (fun _ h9 => h9) rfl d_M_change_37 ?_
        refine lv_if_le (tgt := 45) hx hb d_M_change_40 (by decide) (fun hd1 => ?_) (fun hd1 => ?_)
        · exact absurd hd1 (by decide)
        · refine lv_iconst (v := nI 0) hx hb d_M_change_43 (by decide) ?_
          exact rk_iret ((nI 2, g, pl, by_)) hx hb hr hlocks (Or.inr (Or.inl ⟨by rw [zI_n.mp hc, zI_n.mp hc2]; rfl, hg60, rfl, rfl⟩)) rfl hP hK hD hS d_M_change_44
    · have hv : (rk_v x && rk_v y) = false := by rw [zI_0.mp hc2]; exact Bool.and_false _
      refine lv_iconst (v := nI 1) hx hb d_M_change_15 (by decide) ?_
      refine lv_goto (tgt := 33) hx hb d_M_change_16 (by decide) ?_
      refine va_put (D := (dC, dI)) (ci := 2) (v := .int (nI 1)) (ty := .int) (C := R_M) (T := F_M) (N := 9) hx hb htw u_M t_M t_M_ok n_M hown hK hP hD hS 0 rfl rfl 0 (by decide) (htw _ l_M_32) (fun _ h9 => h9) rfl (by decide +kernel) rfl rfl (Nat.le_of_ble_eq_true rfl) d_M_change_33 (fun H locs hP hD hS => ?_)
      have hP : va_P (dC, dI) classes [(h0, .inr (2, [.int (nI 1), .int (nI g), .ref qt, .ref qn, .ref qp, .ref qb, .ref qf, .ref qh, .ref qd])), (qp, .inl (cI, 60, .inl pl)), (qb, .inl (cI, 60, .inl by_))] H := hP
      have hD : va_D _ [(h0, .inr (2, [.int (nI 1), .int (nI g), .ref qt, .ref qn, .ref qp, .ref qb, .ref qf, .ref qh, .ref qd])), (qp, .inl (cI, 60, .inl pl)), (qb, .inl (cI, 60, .inl by_))] := hD
      refine lv_aload_n hx hb d_M_change_36 rfl (lv_at hl 0 rfl) ?_
      refine va_get (D := (dC, dI)) (ci := 2) (v := .int (nI 1)) (C := R_M) (T := F_M) (N := 9) hx hb htw u_M hown hK hP 0 rfl rfl 0 (by decide) (htw _ l_M_32) (fun _ h9 => h9) rfl d_M_change_37 ?_
      refine lv_if_le (tgt := 45) hx hb d_M_change_40 (by decide) (fun hd1 => ?_) (fun hd1 => ?_)
      · exact absurd hd1 (by decide)
      · refine lv_iconst (v := nI 0) hx hb d_M_change_43 (by decide) ?_
        exact rk_iret ((nI 1, g, pl, by_)) hx hb hr hlocks (Or.inl ⟨hv, rfl, rfl⟩) rfl hP hK hD hS d_M_change_44
set_option maxHeartbeats 4000000 in
set_option maxRecDepth 100000 in
theorem c_M_forget (l : Launch) (dC : Nat → ClassId) (dI : Nat → Nat → Nat) (cI cZ cJ : ClassId) (sz : Nat) (h0 qt qn qp qb qf qh qd : Nat) (th : Int32) (g : Nat) : Met l y_M_forget (.code y_M_forget b_M_forget 2 (some .int) :: WT) { frames := 0, cells := 0, slots := 0, locals := 0 } (va_Pc [.ref h0] (rk_pre (dC, dI) [(cI, .int), (cZ, .boolean), (cJ, .long)] sz [(h0, .inr (2, [.int th, .int (nI g), .ref qt, .ref qn, .ref qp, .ref qb, .ref qf, .ref qh, .ref qd]))])) (va_Qi (fun (r : Int32) (u : Unit) => r = nI g) (fun _ s9 => rk_at (dC, dI) [(cI, .int), (cZ, .boolean), (cJ, .long)] (va_A [(h0, .inr (2, [.int th, .int (nI g), .ref qt, .ref qn, .ref qp, .ref qb, .ref qf, .ref qh, .ref qd]))] sz) [(h0, .inr (2, [.int (nI 0), .int (nI 0), .ref qt, .ref qn, .ref qp, .ref qb, .ref qf, .ref qh, .ref qd]))] s9) (va_A [(h0, .inr (2, [.int th, .int (nI g), .ref qt, .ref qn, .ref qp, .ref qb, .ref qf, .ref qh, .ref qd]))] sz)) 0 0 (va_A [(h0, .inr (2, [.int th, .int (nI g), .ref qt, .ref qn, .ref qp, .ref qb, .ref qf, .ref qh, .ref qd]))] sz) := by
  refine rk_body (by decide) (Nat.le_of_ble_eq_true rfl) ?_
  intro p e s m below meth c hx hb hml hr htw hown hlocks hin hsz hP hK hD hA hS ls hl
  have hown : s.vm.findClass R_M = some m.cls := hown
  have hl : lv_has ls 2 [(0, .ref h0)] := hl
  refine lv_aload_n hx hb d_M_forget_0 rfl (lv_at hl 0 rfl) ?_
  refine lv_iconst (v := nI 0) hx hb d_M_forget_1 (by decide) ?_
  refine va_put (D := (dC, dI)) (ci := 2) (v := .int (nI 0)) (ty := .int) (C := R_M) (T := F_M) (N := 9) hx hb htw u_M t_M t_M_ok n_M hown hK hP hD hS 0 rfl rfl 0 (by decide) (htw _ l_M_32) (fun _ h9 => h9) rfl (by decide +kernel) rfl rfl (Nat.le_of_ble_eq_true rfl) d_M_forget_2 (fun H locs hP hD hS => ?_)
  have hP : va_P (dC, dI) classes [(h0, .inr (2, [.int (nI 0), .int (nI g), .ref qt, .ref qn, .ref qp, .ref qb, .ref qf, .ref qh, .ref qd]))] H := hP
  have hD : va_D _ [(h0, .inr (2, [.int (nI 0), .int (nI g), .ref qt, .ref qn, .ref qp, .ref qb, .ref qf, .ref qh, .ref qd]))] := hD
  refine lv_aload_n hx hb d_M_forget_5 rfl (lv_at hl 0 rfl) ?_
  refine va_get (D := (dC, dI)) (ci := 2) (v := .int (nI g)) (C := R_M) (T := F_M) (N := 9) hx hb htw u_M hown hK hP 0 rfl rfl 1 (by decide) (htw _ l_M_40) (fun _ h9 => h9) rfl d_M_forget_6 ?_
  refine lv_istore_n (lv' := [(1, .int (nI g)), (0, .ref h0)]) hx hb d_M_forget_9 rfl hl (by decide) rfl (fun ls hl => ?_)
  refine lv_aload_n hx hb d_M_forget_10 rfl (lv_at hl 1 rfl) ?_
  refine lv_iconst (v := nI 0) hx hb d_M_forget_11 (by decide) ?_
  refine va_put (D := (dC, dI)) (ci := 2) (v := .int (nI 0)) (ty := .int) (C := R_M) (T := F_M) (N := 9) hx hb htw u_M t_M t_M_ok n_M hown hK hP hD hS 0 rfl rfl 1 (by decide) (htw _ l_M_40) (fun _ h9 => h9) rfl (by decide +kernel) rfl rfl (Nat.le_of_ble_eq_true rfl) d_M_forget_12 (fun H locs hP hD hS => ?_)
  have hP : va_P (dC, dI) classes [(h0, .inr (2, [.int (nI 0), .int (nI 0), .ref qt, .ref qn, .ref qp, .ref qb, .ref qf, .ref qh, .ref qd]))] H := hP
  have hD : va_D _ [(h0, .inr (2, [.int (nI 0), .int (nI 0), .ref qt, .ref qn, .ref qp, .ref qb, .ref qf, .ref qh, .ref qd]))] := hD
  refine lv_iload_n hx hb d_M_forget_15 rfl (lv_at hl 0 rfl) ?_
  exact rk_iret (()) hx hb hr hlocks (rfl) rfl hP hK hD hS d_M_forget_16
set_option maxHeartbeats 4000000 in
set_option maxRecDepth 100000 in
theorem c_M_many (l : Launch) (dC : Nat → ClassId) (dI : Nat → Nat → Nat) (cI cZ cJ : ClassId) (sz : Nat) (h0 qt qn qp qb qf qh qd : Nat) (th : Int32) (g : Nat) (h k : Nat → Bool) (z : Bool) : Met l y_M_many (.code y_M_many b_M_many 4 (some .int) :: WT) { frames := 0, cells := 0, slots := 0, locals := 0 } (va_Pc [.ref h0, .int (zI z)] (rk_pre (dC, dI) [(cI, .int), (cZ, .boolean), (cJ, .long)] sz [(h0, .inr (2, [.int th, .int (nI g), .ref qt, .ref qn, .ref qp, .ref qb, .ref qf, .ref qh, .ref qd])), (qh, .inl (cZ, 1024, .inl (fun p => zI (h p)))), (qd, .inl (cZ, 1024, .inl (fun p => zI (k p))))])) (va_Qi (fun (r : Int32) (u : Unit) => r = nI (rk_c (rk_came h k z) 1024)) (fun _ s9 => rk_at (dC, dI) [(cI, .int), (cZ, .boolean), (cJ, .long)] (va_A [(h0, .inr (2, [.int th, .int (nI g), .ref qt, .ref qn, .ref qp, .ref qb, .ref qf, .ref qh, .ref qd])), (qh, .inl (cZ, 1024, .inl (fun p => zI (h p)))), (qd, .inl (cZ, 1024, .inl (fun p => zI (k p))))] sz) [(h0, .inr (2, [.int th, .int (nI g), .ref qt, .ref qn, .ref qp, .ref qb, .ref qf, .ref qh, .ref qd])), (qh, .inl (cZ, 1024, .inl (fun p => zI (h p)))), (qd, .inl (cZ, 1024, .inl (fun p => zI (k p))))] s9) (va_A [(h0, .inr (2, [.int th, .int (nI g), .ref qt, .ref qn, .ref qp, .ref qb, .ref qf, .ref qh, .ref qd])), (qh, .inl (cZ, 1024, .inl (fun p => zI (h p)))), (qd, .inl (cZ, 1024, .inl (fun p => zI (k p))))] sz)) 0 0 (va_A [(h0, .inr (2, [.int th, .int (nI g), .ref qt, .ref qn, .ref qp, .ref qb, .ref qf, .ref qh, .ref qd])), (qh, .inl (cZ, 1024, .inl (fun p => zI (h p)))), (qd, .inl (cZ, 1024, .inl (fun p => zI (k p))))] sz) := by
  refine rk_body (by decide) (Nat.le_of_ble_eq_true rfl) ?_
  intro p e s m below meth c hx hb hml hr htw hown hlocks hin hsz hP hK hD hA hS ls hl
  have hown : s.vm.findClass R_M = some m.cls := hown
  have hl : lv_has ls 4 [(0, .ref h0), (1, .int (zI z))] := hl
  refine lv_iconst (v := nI 0) hx hb d_M_many_0 (by decide) ?_
  refine lv_istore_n (lv' := [(2, .int (nI 0)), (0, .ref h0), (1, .int (zI z))]) hx hb d_M_many_1 rfl hl (by decide) rfl (fun ls hl => ?_)
  refine lv_iconst (v := nI 0) hx hb d_M_many_2 (by decide) ?_
  refine lv_istore_n (lv' := [(3, .int (nI 0)), (2, .int (nI 0)), (0, .ref h0), (1, .int (zI z))]) hx hb d_M_many_3 rfl hl (by decide) rfl (fun ls hl => ?_)
  have lp : ∀ (kf : Nat) (i : Nat), 1024 - i < kf → i ≤ 1024 → ∀ (ls : Array Slot) (H : Heap) (locs : List Loc), lv_has ls 4 [(3, .int (nI i)), (2, .int (nI (rk_c (rk_came h k z) i))), (0, .ref h0), (1, .int (zI z))] → va_P (dC, dI) classes [(h0, .inr (2, [.int th, .int (nI g), .ref qt, .ref qn, .ref qp, .ref qb, .ref qf, .ref qh, .ref qd])), (qh, .inl (cZ, 1024, .inl (fun p => zI (h p)))), (qd, .inl (cZ, 1024, .inl (fun p => zI (k p))))] H → va_D (va_A [(h0, .inr (2, [.int th, .int (nI g), .ref qt, .ref qn, .ref qp, .ref qb, .ref qf, .ref qh, .ref qd])), (qh, .inl (cZ, 1024, .inl (fun p => zI (h p)))), (qd, .inl (cZ, 1024, .inl (fun p => zI (k p))))] sz) [(h0, .inr (2, [.int th, .int (nI g), .ref qt, .ref qn, .ref qp, .ref qb, .ref qf, .ref qh, .ref qd])), (qh, .inl (cZ, 1024, .inl (fun p => zI (h p)))), (qd, .inl (cZ, 1024, .inl (fun p => zI (k p))))] → va_S (va_A [(h0, .inr (2, [.int th, .int (nI g), .ref qt, .ref qn, .ref qp, .ref qb, .ref qf, .ref qh, .ref qd])), (qh, .inl (cZ, 1024, .inl (fun p => zI (h p)))), (qd, .inl (cZ, 1024, .inl (fun p => zI (k p))))] sz) s.heap H locs → W p l e { frames := 0, cells := 0, slots := 0, locals := 0 } s m ([.ref h0, .int (zI z)]).toArray below meth c H locs 0 0 (MQ below (va_Qi (fun (r : Int32) (u : Unit) => r = nI (rk_c (rk_came h k z) 1024)) (fun _ s9 => rk_at (dC, dI) [(cI, .int), (cZ, .boolean), (cJ, .long)] (va_A [(h0, .inr (2, [.int th, .int (nI g), .ref qt, .ref qn, .ref qp, .ref qb, .ref qf, .ref qh, .ref qd])), (qh, .inl (cZ, 1024, .inl (fun p => zI (h p)))), (qd, .inl (cZ, 1024, .inl (fun p => zI (k p))))] sz) [(h0, .inr (2, [.int th, .int (nI g), .ref qt, .ref qn, .ref qp, .ref qb, .ref qf, .ref qh, .ref qd])), (qh, .inl (cZ, 1024, .inl (fun p => zI (h p)))), (qd, .inl (cZ, 1024, .inl (fun p => zI (k p))))] s9) (va_A [(h0, .inr (2, [.int th, .int (nI g), .ref qt, .ref qn, .ref qp, .ref qb, .ref qf, .ref qh, .ref qd])), (qh, .inl (cZ, 1024, .inl (fun p => zI (h p)))), (qd, .inl (cZ, 1024, .inl (fun p => zI (k p))))] sz)) ([.ref h0, .int (zI z)]).toArray s 0 0 (va_A [(h0, .inr (2, [.int th, .int (nI g), .ref qt, .ref qn, .ref qp, .ref qb, .ref qf, .ref qh, .ref qd])), (qh, .inl (cZ, 1024, .inl (fun p => zI (h p)))), (qd, .inl (cZ, 1024, .inl (fun p => zI (k p))))] sz)) (F0 m 4 ls []) := by
    intro kf
    induction kf with
    | zero => intro i hk hi; exact absurd hk (by omega)
    | succ kf ih =>
      intro i hk hi ls H locs hl hP hD hS
      refine lv_iload_n hx hb d_M_many_4 rfl (lv_at hl 0 rfl) ?_
      refine lv_sipush (v := nI 1024) hx hb d_M_many_5 (by decide) ?_
      refine lv_icmp_ge (tgt := 45) hx hb d_M_many_8 (by decide) (fun hc => ?_) (fun hc => ?_)
      · have hc := (nI_leI (by omega) (by omega)).mp hc
        refine lv_iload_n hx hb d_M_many_45 rfl (lv_at hl 1 rfl) ?_
        exact rk_iret (()) hx hb hr hlocks (by rw [show i = 1024 by omega]) rfl hP hK hD hS d_M_many_46
      · have hc := rk_gt (by omega) (by omega) hc
        refine lv_aload_n hx hb d_M_many_11 rfl (lv_at hl 2 rfl) ?_
        refine va_get (D := (dC, dI)) (ci := 2) (v := .ref qh) (C := R_M) (T := F_M) (N := 9) hx hb htw u_M hown hK hP 0 rfl rfl 7 (by decide) (htw _ l_M_25) (fun _ h9 => h9) rfl d_M_many_12 ?_
        refine lv_iload_n hx hb d_M_many_15 rfl (lv_at hl 0 rfl) ?_
        refine va_zald hx hb hK hP 1 1 rfl rfl (vp_in_nI (n := i) (show i < 1024 by omega) (by decide)) d_M_many_16 ?_
        refine rk_top (y := zI (h i)) (congrArg (fun p => zI (h p)) (nI_clamp (show i < 2 ^ 31 by omega))) ?_
        refine lv_aload_n hx hb d_M_many_17 rfl (lv_at hl 2 rfl) ?_
        refine va_get (D := (dC, dI)) (ci := 2) (v := .ref qd) (C := R_M) (T := F_M) (N := 9) hx hb htw u_M hown hK hP 0 rfl rfl 8 (by decide) (htw _ l_M_29) (fun _ h9 => h9) rfl d_M_many_18 ?_
        refine lv_iload_n hx hb d_M_many_21 rfl (lv_at hl 0 rfl) ?_
        refine va_zald hx hb hK hP 2 1 rfl rfl (vp_in_nI (n := i) (show i < 1024 by omega) (by decide)) d_M_many_22 ?_
        refine rk_top (y := zI (k i)) (congrArg (fun p => zI (k p)) (nI_clamp (show i < 2 ^ 31 by omega))) ?_
        refine lv_icmp_eq (tgt := 39) hx hb d_M_many_23 (by decide) (fun hc2 => ?_) (fun hc2 => ?_)
        · rw [← rk_c_f (f := (rk_came h k z)) (n := i) (rk_came_s (zI_inj.mp hc2))] at hl
          refine lv_iinc (k := 0) (v := nI (i + 1)) (lv' := [(3, .int (nI (i + 1))), (2, .int (nI (rk_c (rk_came h k z) (i + 1)))), (0, .ref h0), (1, .int (zI z))]) hx hb d_M_many_39 hl rfl (nI_1 i) (by decide) rfl (fun ls hl => ?_)
          refine lv_goto (tgt := 4) hx hb d_M_many_42 (by decide) ?_
          exact ih (i + 1) (by omega) (by omega) ls H locs hl hP hD hS
        · refine lv_aload_n hx hb d_M_many_26 rfl (lv_at hl 2 rfl) ?_
          refine va_get (D := (dC, dI)) (ci := 2) (v := .ref qh) (C := R_M) (T := F_M) (N := 9) hx hb htw u_M hown hK hP 0 rfl rfl 7 (by decide) (htw _ l_M_25) (fun _ h9 => h9) rfl d_M_many_27 ?_
          refine lv_iload_n hx hb d_M_many_30 rfl (lv_at hl 0 rfl) ?_
          refine va_zald hx hb hK hP 1 1 rfl rfl (vp_in_nI (n := i) (show i < 1024 by omega) (by decide)) d_M_many_31 ?_
          refine rk_top (y := zI (h i)) (congrArg (fun p => zI (h p)) (nI_clamp (show i < 2 ^ 31 by omega))) ?_
          refine lv_iload_n hx hb d_M_many_32 rfl (lv_at hl 3 rfl) ?_
          refine lv_icmp_ne (tgt := 39) hx hb d_M_many_33 (by decide) (fun hc3 => ?_) (fun hc3 => ?_)
          · rw [← rk_c_f (f := (rk_came h k z)) (n := i) (rk_came_o (fun z9 => hc3 (zI_inj.mpr z9)))] at hl
            refine lv_iinc (k := 0) (v := nI (i + 1)) (lv' := [(3, .int (nI (i + 1))), (2, .int (nI (rk_c (rk_came h k z) (i + 1)))), (0, .ref h0), (1, .int (zI z))]) hx hb d_M_many_39 hl rfl (nI_1 i) (by decide) rfl (fun ls hl => ?_)
            refine lv_goto (tgt := 4) hx hb d_M_many_42 (by decide) ?_
            exact ih (i + 1) (by omega) (by omega) ls H locs hl hP hD hS
          · refine lv_iinc (k := 1) (v := nI (rk_c (rk_came h k z) i + 1)) (lv' := [(2, .int (nI (rk_c (rk_came h k z) i + 1))), (3, .int (nI i)), (0, .ref h0), (1, .int (zI z))]) hx hb d_M_many_36 hl rfl (nI_1 (rk_c (rk_came h k z) i)) (by decide) rfl (fun ls hl => ?_)
            rw [← rk_c_t (f := (rk_came h k z)) (n := i) (rk_came_t (fun z9 => hc2 (zI_inj.mpr z9)) (zI_inj.mp hc3))] at hl
            refine lv_iinc (k := 1) (v := nI (i + 1)) (lv' := [(3, .int (nI (i + 1))), (2, .int (nI (rk_c (rk_came h k z) (i + 1)))), (0, .ref h0), (1, .int (zI z))]) hx hb d_M_many_39 hl rfl (nI_1 i) (by decide) rfl (fun ls hl => ?_)
            refine lv_goto (tgt := 4) hx hb d_M_many_42 (by decide) ?_
            exact ih (i + 1) (by omega) (by omega) ls H locs hl hP hD hS
  exact lp 1025 0 (by omega) (by omega) ls _ _ hl hP hD hS
set_option maxHeartbeats 4000000 in
set_option maxRecDepth 100000 in
theorem c_M_holds (l : Launch) (dC : Nat → ClassId) (dI : Nat → Nat → Nat) (cI cZ cJ : ClassId) (sz : Nat) (h0 qt qn qp qb qf qh qd : Nat) (th : Int32) (g : Nat) (h : Nat → Bool) (x y : Int32) : Met l y_M_holds (.code y_M_holds b_M_holds 3 (some .boolean) :: WT) { frames := 1, cells := 0, slots := 0, locals := 20 } (va_Pc [.ref h0, .int x, .int y] (rk_pre (dC, dI) [(cI, .int), (cZ, .boolean), (cJ, .long)] sz [(h0, .inr (2, [.int th, .int (nI g), .ref qt, .ref qn, .ref qp, .ref qb, .ref qf, .ref qh, .ref qd])), (qh, .inl (cZ, 1024, .inl (fun p => zI (h p))))])) (va_Qi (fun (r : Int32) (u : Int32) => rk_hoM h x y r u) (fun u s9 => rk_at (dC, dI) [(cI, .int), (cZ, .boolean), (cJ, .long)] (va_A [(h0, .inr (2, [.int th, .int (nI g), .ref qt, .ref qn, .ref qp, .ref qb, .ref qf, .ref qh, .ref qd])), (qh, .inl (cZ, 1024, .inl (fun p => zI (h p))))] sz) [(h0, .inr (2, [.int u, .int (nI g), .ref qt, .ref qn, .ref qp, .ref qb, .ref qf, .ref qh, .ref qd])), (qh, .inl (cZ, 1024, .inl (fun p => zI (h p))))] s9) (va_A [(h0, .inr (2, [.int th, .int (nI g), .ref qt, .ref qn, .ref qp, .ref qb, .ref qf, .ref qh, .ref qd])), (qh, .inl (cZ, 1024, .inl (fun p => zI (h p))))] sz)) 0 0 (va_A [(h0, .inr (2, [.int th, .int (nI g), .ref qt, .ref qn, .ref qp, .ref qb, .ref qf, .ref qh, .ref qd])), (qh, .inl (cZ, 1024, .inl (fun p => zI (h p))))] sz) := by
  refine rk_body (by decide) (Nat.le_of_ble_eq_true rfl) ?_
  intro p e s m below meth c hx hb hml hr htw hown hlocks hin hsz hP hK hD hA hS ls hl
  have hown : s.vm.findClass R_M = some m.cls := hown
  have hl : lv_has ls 3 [(0, .ref h0), (1, .int x), (2, .int y)] := hl
  refine lv_aload_n hx hb d_M_holds_0 rfl (lv_at hl 0 rfl) ?_
  refine lv_iload_n hx hb d_M_holds_1 rfl (lv_at hl 1 rfl) ?_
  refine rk_backi (wc := []) (wr := [(h0, .inr (2, [.int th, .int (nI g), .ref qt, .ref qn, .ref qp, .ref qb, .ref qf, .ref qh, .ref qd])), (qh, .inl (cZ, 1024, .inl (fun p => zI (h p))))]) (va_runS (As := [.int x]) (rest := [.ref h0]) ⟨hx, hb, hml, hown, htw⟩ (c_M_isVertex l dC dI cI cZ cJ _ x) (rk_cwS 1 htw gc_M_holds_2 (by decide +kernel) ⟨(Nat.le_of_ble_eq_true rfl), (Nat.le_of_ble_eq_true rfl)⟩) (⟨rk_blind, rk_give (rk_psub (isC := []) hP rfl) hK (hD.sub [] rfl rfl)⟩) rfl rfl hl.1 rfl (lv_room (Nat.le_of_ble_eq_true rfl)) d_M_holds_2 ⟨(Nat.le_of_ble_eq_true rfl), (Nat.le_of_ble_eq_true rfl)⟩) hP hD hS hA [] [0, 1] rfl rfl rfl (by decide) (fun x5 u5 H locs hp hP hD hS => ?_)
  subst hp
  have hP : va_P (dC, dI) classes [(h0, .inr (2, [.int th, .int (nI g), .ref qt, .ref qn, .ref qp, .ref qb, .ref qf, .ref qh, .ref qd])), (qh, .inl (cZ, 1024, .inl (fun p => zI (h p))))] H := hP
  have hD : va_D _ [(h0, .inr (2, [.int th, .int (nI g), .ref qt, .ref qn, .ref qp, .ref qb, .ref qf, .ref qh, .ref qd])), (qh, .inl (cZ, 1024, .inl (fun p => zI (h p))))] := hD
  refine lv_if_eq (tgt := 19) hx hb d_M_holds_5 (by decide) (fun hc => ?_) (fun hc => ?_)
  · have hv : (rk_v x && rk_v y) = false := by rw [zI_0.mp hc]; rfl
    refine lv_iconst (v := nI 1) hx hb d_M_holds_19 (by decide) ?_
    refine va_put (D := (dC, dI)) (ci := 2) (v := .int (nI 1)) (ty := .int) (C := R_M) (T := F_M) (N := 9) hx hb htw u_M t_M t_M_ok n_M hown hK hP hD hS 0 rfl rfl 0 (by decide) (htw _ l_M_32) (fun _ h9 => h9) rfl (by decide +kernel) rfl rfl (Nat.le_of_ble_eq_true rfl) d_M_holds_20 (fun H locs hP hD hS => ?_)
    have hP : va_P (dC, dI) classes [(h0, .inr (2, [.int (nI 1), .int (nI g), .ref qt, .ref qn, .ref qp, .ref qb, .ref qf, .ref qh, .ref qd])), (qh, .inl (cZ, 1024, .inl (fun p => zI (h p))))] H := hP
    have hD : va_D _ [(h0, .inr (2, [.int (nI 1), .int (nI g), .ref qt, .ref qn, .ref qp, .ref qb, .ref qf, .ref qh, .ref qd])), (qh, .inl (cZ, 1024, .inl (fun p => zI (h p))))] := hD
    refine lv_aload_n hx hb d_M_holds_23 rfl (lv_at hl 0 rfl) ?_
    refine va_get (D := (dC, dI)) (ci := 2) (v := .int (nI 1)) (C := R_M) (T := F_M) (N := 9) hx hb htw u_M hown hK hP 0 rfl rfl 0 (by decide) (htw _ l_M_32) (fun _ h9 => h9) rfl d_M_holds_24 ?_
    refine lv_if_ne (tgt := 48) hx hb d_M_holds_27 (by decide) (fun hd1 => ?_) (fun hd1 => ?_)
    · refine lv_iconst (v := nI 0) hx hb d_M_holds_48 (by decide) ?_
      refine rk_top (y := zI false) rfl ?_
      exact rk_zret (nI 1) hx hb hr hlocks (Or.inl ⟨hv, rfl, rfl⟩) rfl hP hK hD hS d_M_holds_49
    · exact absurd hd1 (by decide)
  · refine lv_iload_n hx hb d_M_holds_8 rfl (lv_at hl 2 rfl) ?_
    refine rk_backi (wc := []) (wr := [(h0, .inr (2, [.int th, .int (nI g), .ref qt, .ref qn, .ref qp, .ref qb, .ref qf, .ref qh, .ref qd])), (qh, .inl (cZ, 1024, .inl (fun p => zI (h p))))]) (va_runS (As := [.int y]) (rest := [.ref h0]) ⟨hx, hb, hml, hown, htw⟩ (c_M_isVertex l dC dI cI cZ cJ _ y) (rk_cwS 1 htw gc_M_holds_9 (by decide +kernel) ⟨(Nat.le_of_ble_eq_true rfl), (Nat.le_of_ble_eq_true rfl)⟩) (⟨rk_blind, rk_give (rk_psub (isC := []) hP rfl) hK (hD.sub [] rfl rfl)⟩) rfl rfl hl.1 rfl (lv_room (Nat.le_of_ble_eq_true rfl)) d_M_holds_9 ⟨(Nat.le_of_ble_eq_true rfl), (Nat.le_of_ble_eq_true rfl)⟩) hP hD hS hA [] [0, 1] rfl rfl rfl (by decide) (fun x6 u6 H locs hp hP hD hS => ?_)
    subst hp
    have hP : va_P (dC, dI) classes [(h0, .inr (2, [.int th, .int (nI g), .ref qt, .ref qn, .ref qp, .ref qb, .ref qf, .ref qh, .ref qd])), (qh, .inl (cZ, 1024, .inl (fun p => zI (h p))))] H := hP
    have hD : va_D _ [(h0, .inr (2, [.int th, .int (nI g), .ref qt, .ref qn, .ref qp, .ref qb, .ref qf, .ref qh, .ref qd])), (qh, .inl (cZ, 1024, .inl (fun p => zI (h p))))] := hD
    refine lv_if_eq (tgt := 19) hx hb d_M_holds_12 (by decide) (fun hc2 => ?_) (fun hc2 => ?_)
    · have hv : (rk_v x && rk_v y) = false := by rw [zI_0.mp hc2]; exact Bool.and_false _
      refine lv_iconst (v := nI 1) hx hb d_M_holds_19 (by decide) ?_
      refine va_put (D := (dC, dI)) (ci := 2) (v := .int (nI 1)) (ty := .int) (C := R_M) (T := F_M) (N := 9) hx hb htw u_M t_M t_M_ok n_M hown hK hP hD hS 0 rfl rfl 0 (by decide) (htw _ l_M_32) (fun _ h9 => h9) rfl (by decide +kernel) rfl rfl (Nat.le_of_ble_eq_true rfl) d_M_holds_20 (fun H locs hP hD hS => ?_)
      have hP : va_P (dC, dI) classes [(h0, .inr (2, [.int (nI 1), .int (nI g), .ref qt, .ref qn, .ref qp, .ref qb, .ref qf, .ref qh, .ref qd])), (qh, .inl (cZ, 1024, .inl (fun p => zI (h p))))] H := hP
      have hD : va_D _ [(h0, .inr (2, [.int (nI 1), .int (nI g), .ref qt, .ref qn, .ref qp, .ref qb, .ref qf, .ref qh, .ref qd])), (qh, .inl (cZ, 1024, .inl (fun p => zI (h p))))] := hD
      refine lv_aload_n hx hb d_M_holds_23 rfl (lv_at hl 0 rfl) ?_
      refine va_get (D := (dC, dI)) (ci := 2) (v := .int (nI 1)) (C := R_M) (T := F_M) (N := 9) hx hb htw u_M hown hK hP 0 rfl rfl 0 (by decide) (htw _ l_M_32) (fun _ h9 => h9) rfl d_M_holds_24 ?_
      refine lv_if_ne (tgt := 48) hx hb d_M_holds_27 (by decide) (fun hd1 => ?_) (fun hd1 => ?_)
      · refine lv_iconst (v := nI 0) hx hb d_M_holds_48 (by decide) ?_
        refine rk_top (y := zI false) rfl ?_
        exact rk_zret (nI 1) hx hb hr hlocks (Or.inl ⟨hv, rfl, rfl⟩) rfl hP hK hD hS d_M_holds_49
      · exact absurd hd1 (by decide)
    · obtain ⟨a, ha, rfl⟩ := rk_v_t (zI_n.mp hc)
      obtain ⟨b, hb32, rfl⟩ := rk_v_t (zI_n.mp hc2)
      refine lv_iconst (v := nI 0) hx hb d_M_holds_15 (by decide) ?_
      refine lv_goto (tgt := 20) hx hb d_M_holds_16 (by decide) ?_
      refine va_put (D := (dC, dI)) (ci := 2) (v := .int (nI 0)) (ty := .int) (C := R_M) (T := F_M) (N := 9) hx hb htw u_M t_M t_M_ok n_M hown hK hP hD hS 0 rfl rfl 0 (by decide) (htw _ l_M_32) (fun _ h9 => h9) rfl (by decide +kernel) rfl rfl (Nat.le_of_ble_eq_true rfl) d_M_holds_20 (fun H locs hP hD hS => ?_)
      have hP : va_P (dC, dI) classes [(h0, .inr (2, [.int (nI 0), .int (nI g), .ref qt, .ref qn, .ref qp, .ref qb, .ref qf, .ref qh, .ref qd])), (qh, .inl (cZ, 1024, .inl (fun p => zI (h p))))] H := hP
      have hD : va_D _ [(h0, .inr (2, [.int (nI 0), .int (nI g), .ref qt, .ref qn, .ref qp, .ref qb, .ref qf, .ref qh, .ref qd])), (qh, .inl (cZ, 1024, .inl (fun p => zI (h p))))] := hD
      refine lv_aload_n hx hb d_M_holds_23 rfl (lv_at hl 0 rfl) ?_
      refine va_get (D := (dC, dI)) (ci := 2) (v := .int (nI 0)) (C := R_M) (T := F_M) (N := 9) hx hb htw u_M hown hK hP 0 rfl rfl 0 (by decide) (htw _ l_M_32) (fun _ h9 => h9) rfl d_M_holds_24 ?_
      refine lv_if_ne (tgt := 48) hx hb d_M_holds_27 (by decide) (fun hd1 => absurd rfl hd1) (fun hd1 => ?_)
      refine lv_aload_n hx hb d_M_holds_30 rfl (lv_at hl 0 rfl) ?_
      refine va_get (D := (dC, dI)) (ci := 2) (v := .ref qh) (C := R_M) (T := F_M) (N := 9) hx hb htw u_M hown hK hP 0 rfl rfl 7 (by decide) (htw _ l_M_25) (fun _ h9 => h9) rfl d_M_holds_31 ?_
      refine lv_bipush (v := nI 32) hx hb d_M_holds_34 (by decide) ?_
      refine lv_iload_n hx hb d_M_holds_36 rfl (lv_at hl 1 rfl) ?_
      refine lv_imul hx hb d_M_holds_37 ?_
      refine rk_top (y := nI (32 * a)) (pk_mul 32 a) ?_
      refine lv_iload_n hx hb d_M_holds_38 rfl (lv_at hl 2 rfl) ?_
      refine lv_iadd hx hb d_M_holds_39 ?_
      refine rk_top (y := nI (32 * a + b)) (nI_add (32 * a) b) ?_
      refine va_zald hx hb hK hP 1 1 rfl rfl (vp_in_nI (n := 32 * a + b) (show 32 * a + b < 1024 by omega) (by decide)) d_M_holds_40 ?_
      refine rk_top (y := zI (h (32 * a + b))) (congrArg (fun p => zI (h p)) (nI_clamp (show 32 * a + b < 2 ^ 31 by omega))) ?_
      refine lv_if_eq (tgt := 48) hx hb d_M_holds_41 (by decide) (fun hd2 => ?_) (fun hd2 => ?_)
      · refine lv_iconst (v := nI 0) hx hb d_M_holds_48 (by decide) ?_
        refine rk_top (y := zI (h (32 * a + b))) (by rw [zI_0.mp hd2]; rfl) ?_
        exact rk_zret (nI 0) hx hb hr hlocks (Or.inr ⟨a, b, ha, hb32, rfl, rfl, rfl, rfl⟩) rfl hP hK hD hS d_M_holds_49
      · refine lv_iconst (v := nI 1) hx hb d_M_holds_44 (by decide) ?_
        refine lv_goto (tgt := 49) hx hb d_M_holds_45 (by decide) ?_
        refine rk_top (y := zI (h (32 * a + b))) (by rw [zI_n.mp hd2]; rfl) ?_
        exact rk_zret (nI 0) hx hb hr hlocks (Or.inr ⟨a, b, ha, hb32, rfl, rfl, rfl, rfl⟩) rfl hP hK hD hS d_M_holds_49
set_option maxHeartbeats 4000000 in
set_option maxRecDepth 100000 in
theorem c_M_other (l : Launch) (dC : Nat → ClassId) (dI : Nat → Nat → Nat) (cI cZ cJ : ClassId) (sz : Nat) (h0 qt qn qp qb qf qh qd : Nat) (th : Int32) (g : Nat) (h k : Nat → Bool) (x : Int32) (z : Bool) : Met l y_M_other (.code y_M_other b_M_other 5 (some .int) :: WT) { frames := 0, cells := 0, slots := 0, locals := 0 } (va_Pc [.ref h0, .int x, .int (zI z)] (rk_pre (dC, dI) [(cI, .int), (cZ, .boolean), (cJ, .long)] sz [(h0, .inr (2, [.int th, .int (nI g), .ref qt, .ref qn, .ref qp, .ref qb, .ref qf, .ref qh, .ref qd])), (qh, .inl (cZ, 1024, .inl (fun p => zI (h p)))), (qd, .inl (cZ, 1024, .inl (fun p => zI (k p))))])) (va_Qi (fun (r : Int32) (u : Int32) => rk_otM (rk_came h k z) x r u) (fun u s9 => rk_at (dC, dI) [(cI, .int), (cZ, .boolean), (cJ, .long)] (va_A [(h0, .inr (2, [.int th, .int (nI g), .ref qt, .ref qn, .ref qp, .ref qb, .ref qf, .ref qh, .ref qd])), (qh, .inl (cZ, 1024, .inl (fun p => zI (h p)))), (qd, .inl (cZ, 1024, .inl (fun p => zI (k p))))] sz) [(h0, .inr (2, [.int u, .int (nI g), .ref qt, .ref qn, .ref qp, .ref qb, .ref qf, .ref qh, .ref qd])), (qh, .inl (cZ, 1024, .inl (fun p => zI (h p)))), (qd, .inl (cZ, 1024, .inl (fun p => zI (k p))))] s9) (va_A [(h0, .inr (2, [.int th, .int (nI g), .ref qt, .ref qn, .ref qp, .ref qb, .ref qf, .ref qh, .ref qd])), (qh, .inl (cZ, 1024, .inl (fun p => zI (h p)))), (qd, .inl (cZ, 1024, .inl (fun p => zI (k p))))] sz)) 0 0 (va_A [(h0, .inr (2, [.int th, .int (nI g), .ref qt, .ref qn, .ref qp, .ref qb, .ref qf, .ref qh, .ref qd])), (qh, .inl (cZ, 1024, .inl (fun p => zI (h p)))), (qd, .inl (cZ, 1024, .inl (fun p => zI (k p))))] sz) := by
  refine rk_body (by decide) (Nat.le_of_ble_eq_true rfl) ?_
  intro p e s m below meth c hx hb hml hr htw hown hlocks hin hsz hP hK hD hA hS ls hl
  have hown : s.vm.findClass R_M = some m.cls := hown
  have hl : lv_has ls 5 [(0, .ref h0), (1, .int x), (2, .int (zI z))] := hl
  refine lv_iconst (v := -1) hx hb d_M_other_0 (by decide) ?_
  refine lv_istore_n (lv' := [(3, .int (-1)), (0, .ref h0), (1, .int x), (2, .int (zI z))]) hx hb d_M_other_1 rfl hl (by decide) rfl (fun ls hl => ?_)
  refine lv_aload_n hx hb d_M_other_2 rfl (lv_at hl 1 rfl) ?_
  refine lv_iconst (v := nI 0) hx hb d_M_other_3 (by decide) ?_
  refine va_put (D := (dC, dI)) (ci := 2) (v := .int (nI 0)) (ty := .int) (C := R_M) (T := F_M) (N := 9) hx hb htw u_M t_M t_M_ok n_M hown hK hP hD hS 0 rfl rfl 0 (by decide) (htw _ l_M_32) (fun _ h9 => h9) rfl (by decide +kernel) rfl rfl (Nat.le_of_ble_eq_true rfl) d_M_other_4 (fun H locs hP hD hS => ?_)
  have hP : va_P (dC, dI) classes [(h0, .inr (2, [.int (nI 0), .int (nI g), .ref qt, .ref qn, .ref qp, .ref qb, .ref qf, .ref qh, .ref qd])), (qh, .inl (cZ, 1024, .inl (fun p => zI (h p)))), (qd, .inl (cZ, 1024, .inl (fun p => zI (k p))))] H := hP
  have hD : va_D _ [(h0, .inr (2, [.int (nI 0), .int (nI g), .ref qt, .ref qn, .ref qp, .ref qb, .ref qf, .ref qh, .ref qd])), (qh, .inl (cZ, 1024, .inl (fun p => zI (h p)))), (qd, .inl (cZ, 1024, .inl (fun p => zI (k p))))] := hD
  refine lv_iconst (v := nI 0) hx hb d_M_other_7 (by decide) ?_
  refine lv_istore (lv' := [(4, .int (nI 0)), (3, .int (-1)), (0, .ref h0), (1, .int x), (2, .int (zI z))]) hx hb d_M_other_8 hl (by decide) rfl (fun ls hl => ?_)
  have lp : ∀ (kf : Nat) (i : Nat), 1024 - i < kf → i ≤ 1024 → ∀ n : Int32, nI (rk_c (rk_came h k z) i) = n + Int32.ofInt 1 → (∀ p, p < i → (rk_came h k z) p = true → x ≠ nI (rk_c (rk_came h k z) p)) → ∀ (ls : Array Slot) (H : Heap) (locs : List Loc), lv_has ls 5 [(4, .int (nI i)), (3, .int n), (0, .ref h0), (1, .int x), (2, .int (zI z))] → va_P (dC, dI) classes [(h0, .inr (2, [.int (nI 0), .int (nI g), .ref qt, .ref qn, .ref qp, .ref qb, .ref qf, .ref qh, .ref qd])), (qh, .inl (cZ, 1024, .inl (fun p => zI (h p)))), (qd, .inl (cZ, 1024, .inl (fun p => zI (k p))))] H → va_D (va_A [(h0, .inr (2, [.int th, .int (nI g), .ref qt, .ref qn, .ref qp, .ref qb, .ref qf, .ref qh, .ref qd])), (qh, .inl (cZ, 1024, .inl (fun p => zI (h p)))), (qd, .inl (cZ, 1024, .inl (fun p => zI (k p))))] sz) [(h0, .inr (2, [.int (nI 0), .int (nI g), .ref qt, .ref qn, .ref qp, .ref qb, .ref qf, .ref qh, .ref qd])), (qh, .inl (cZ, 1024, .inl (fun p => zI (h p)))), (qd, .inl (cZ, 1024, .inl (fun p => zI (k p))))] → va_S (va_A [(h0, .inr (2, [.int th, .int (nI g), .ref qt, .ref qn, .ref qp, .ref qb, .ref qf, .ref qh, .ref qd])), (qh, .inl (cZ, 1024, .inl (fun p => zI (h p)))), (qd, .inl (cZ, 1024, .inl (fun p => zI (k p))))] sz) s.heap H locs → W p l e { frames := 0, cells := 0, slots := 0, locals := 0 } s m ([.ref h0, .int x, .int (zI z)]).toArray below meth c H locs 0 0 (MQ below (va_Qi (fun (r : Int32) (u : Int32) => rk_otM (rk_came h k z) x r u) (fun u s9 => rk_at (dC, dI) [(cI, .int), (cZ, .boolean), (cJ, .long)] (va_A [(h0, .inr (2, [.int th, .int (nI g), .ref qt, .ref qn, .ref qp, .ref qb, .ref qf, .ref qh, .ref qd])), (qh, .inl (cZ, 1024, .inl (fun p => zI (h p)))), (qd, .inl (cZ, 1024, .inl (fun p => zI (k p))))] sz) [(h0, .inr (2, [.int u, .int (nI g), .ref qt, .ref qn, .ref qp, .ref qb, .ref qf, .ref qh, .ref qd])), (qh, .inl (cZ, 1024, .inl (fun p => zI (h p)))), (qd, .inl (cZ, 1024, .inl (fun p => zI (k p))))] s9) (va_A [(h0, .inr (2, [.int th, .int (nI g), .ref qt, .ref qn, .ref qp, .ref qb, .ref qf, .ref qh, .ref qd])), (qh, .inl (cZ, 1024, .inl (fun p => zI (h p)))), (qd, .inl (cZ, 1024, .inl (fun p => zI (k p))))] sz)) ([.ref h0, .int x, .int (zI z)]).toArray s 0 0 (va_A [(h0, .inr (2, [.int th, .int (nI g), .ref qt, .ref qn, .ref qp, .ref qb, .ref qf, .ref qh, .ref qd])), (qh, .inl (cZ, 1024, .inl (fun p => zI (h p)))), (qd, .inl (cZ, 1024, .inl (fun p => zI (k p))))] sz)) (F0 m 10 ls []) := by
    intro kf
    induction kf with
    | zero => intro i hk hi n hn hno; exact absurd hk (by omega)
    | succ kf ih =>
      intro i hk hi n hn hno ls H locs hl hP hD hS
      refine lv_iload hx hb d_M_other_10 (lv_at hl 0 rfl) ?_
      refine lv_sipush (v := nI 1024) hx hb d_M_other_12 (by decide) ?_
      refine lv_icmp_ge (tgt := 66) hx hb d_M_other_15 (by decide) (fun hc => ?_) (fun hc => ?_)
      · have hc := (nI_leI (by omega) (by omega)).mp hc
        refine lv_aload_n hx hb d_M_other_66 rfl (lv_at hl 2 rfl) ?_
        refine lv_iconst (v := nI 1) hx hb d_M_other_67 (by decide) ?_
        refine va_put (D := (dC, dI)) (ci := 2) (v := .int (nI 1)) (ty := .int) (C := R_M) (T := F_M) (N := 9) hx hb htw u_M t_M t_M_ok n_M hown hK hP hD hS 0 rfl rfl 0 (by decide) (htw _ l_M_32) (fun _ h9 => h9) rfl (by decide +kernel) rfl rfl (Nat.le_of_ble_eq_true rfl) d_M_other_68 (fun H locs hP hD hS => ?_)
        have hP : va_P (dC, dI) classes [(h0, .inr (2, [.int (nI 1), .int (nI g), .ref qt, .ref qn, .ref qp, .ref qb, .ref qf, .ref qh, .ref qd])), (qh, .inl (cZ, 1024, .inl (fun p => zI (h p)))), (qd, .inl (cZ, 1024, .inl (fun p => zI (k p))))] H := hP
        have hD : va_D _ [(h0, .inr (2, [.int (nI 1), .int (nI g), .ref qt, .ref qn, .ref qp, .ref qb, .ref qf, .ref qh, .ref qd])), (qh, .inl (cZ, 1024, .inl (fun p => zI (h p)))), (qd, .inl (cZ, 1024, .inl (fun p => zI (k p))))] := hD
        refine lv_iconst (v := nI 0) hx hb d_M_other_71 (by decide) ?_
        exact rk_iret (nI 1) hx hb hr hlocks (Or.inr ⟨fun p hp9 => hno p (by omega), rfl⟩) rfl hP hK hD hS d_M_other_72
      · have hc := rk_gt (by omega) (by omega) hc
        refine lv_aload_n hx hb d_M_other_18 rfl (lv_at hl 2 rfl) ?_
        refine va_get (D := (dC, dI)) (ci := 2) (v := .ref qh) (C := R_M) (T := F_M) (N := 9) hx hb htw u_M hown hK hP 0 rfl rfl 7 (by decide) (htw _ l_M_25) (fun _ h9 => h9) rfl d_M_other_19 ?_
        refine lv_iload hx hb d_M_other_22 (lv_at hl 0 rfl) ?_
        refine va_zald hx hb hK hP 1 1 rfl rfl (vp_in_nI (n := i) (show i < 1024 by omega) (by decide)) d_M_other_24 ?_
        refine rk_top (y := zI (h i)) (congrArg (fun p => zI (h p)) (nI_clamp (show i < 2 ^ 31 by omega))) ?_
        refine lv_aload_n hx hb d_M_other_25 rfl (lv_at hl 2 rfl) ?_
        refine va_get (D := (dC, dI)) (ci := 2) (v := .ref qd) (C := R_M) (T := F_M) (N := 9) hx hb htw u_M hown hK hP 0 rfl rfl 8 (by decide) (htw _ l_M_29) (fun _ h9 => h9) rfl d_M_other_26 ?_
        refine lv_iload hx hb d_M_other_29 (lv_at hl 0 rfl) ?_
        refine va_zald hx hb hK hP 2 1 rfl rfl (vp_in_nI (n := i) (show i < 1024 by omega) (by decide)) d_M_other_31 ?_
        refine rk_top (y := zI (k i)) (congrArg (fun p => zI (k p)) (nI_clamp (show i < 2 ^ 31 by omega))) ?_
        refine lv_icmp_eq (tgt := 60) hx hb d_M_other_32 (by decide) (fun hc2 => ?_) (fun hc2 => ?_)
        · have hf : (rk_came h k z) i = false := rk_came_s (zI_inj.mp hc2)
          refine lv_iinc (k := 0) (v := nI (i + 1)) (lv' := [(4, .int (nI (i + 1))), (3, .int n), (0, .ref h0), (1, .int x), (2, .int (zI z))]) hx hb d_M_other_60 hl rfl (nI_1 i) (by decide) rfl (fun ls hl => ?_)
          refine lv_goto (tgt := 10) hx hb d_M_other_63 (by decide) ?_
          exact ih (i + 1) (by omega) (by omega) n (by rw [rk_c_f hf]; exact hn) (fun p hp9 hq9 => by rcases Nat.lt_or_ge p i with z9 | z9; exact hno p z9 hq9; rw [show p = i by omega, hf] at hq9; cases hq9) ls H locs hl hP hD hS
        · refine lv_aload_n hx hb d_M_other_35 rfl (lv_at hl 2 rfl) ?_
          refine va_get (D := (dC, dI)) (ci := 2) (v := .ref qh) (C := R_M) (T := F_M) (N := 9) hx hb htw u_M hown hK hP 0 rfl rfl 7 (by decide) (htw _ l_M_25) (fun _ h9 => h9) rfl d_M_other_36 ?_
          refine lv_iload hx hb d_M_other_39 (lv_at hl 0 rfl) ?_
          refine va_zald hx hb hK hP 1 1 rfl rfl (vp_in_nI (n := i) (show i < 1024 by omega) (by decide)) d_M_other_41 ?_
          refine rk_top (y := zI (h i)) (congrArg (fun p => zI (h p)) (nI_clamp (show i < 2 ^ 31 by omega))) ?_
          refine lv_iload_n hx hb d_M_other_42 rfl (lv_at hl 4 rfl) ?_
          refine lv_icmp_eq (tgt := 49) hx hb d_M_other_43 (by decide) (fun hc3 => ?_) (fun hc3 => ?_)
          · have hf : (rk_came h k z) i = true := rk_came_t (fun z9 => hc2 (zI_inj.mpr z9)) (zI_inj.mp hc3)
            refine lv_iinc (k := 1) (v := nI (rk_c (rk_came h k z) i)) (lv' := [(3, .int (nI (rk_c (rk_came h k z) i))), (4, .int (nI i)), (0, .ref h0), (1, .int x), (2, .int (zI z))]) hx hb d_M_other_49 hl rfl hn.symm (by decide) rfl (fun ls hl => ?_)
            refine lv_iload_n hx hb d_M_other_52 rfl (lv_at hl 0 rfl) ?_
            refine lv_iload_n hx hb d_M_other_53 rfl (lv_at hl 3 rfl) ?_
            refine lv_icmp_ne (tgt := 60) hx hb d_M_other_54 (by decide) (fun hc4 => ?_) (fun hc4 => ?_)
            · refine lv_iinc (k := 1) (v := nI (i + 1)) (lv' := [(4, .int (nI (i + 1))), (3, .int (nI (rk_c (rk_came h k z) i))), (0, .ref h0), (1, .int x), (2, .int (zI z))]) hx hb d_M_other_60 hl rfl (nI_1 i) (by decide) rfl (fun ls hl => ?_)
              refine lv_goto (tgt := 10) hx hb d_M_other_63 (by decide) ?_
              have hl := lv_sub (l' := [(4, .int (nI (i + 1))), (3, .int (nI (rk_c (rk_came h k z) i))), (0, .ref h0), (1, .int x), (2, .int (zI z))]) hl [0, 1, 2, 3, 4] rfl
              exact ih (i + 1) (by omega) (by omega) _ (by rw [rk_c_t hf]; exact (nI_1 _).symm) (fun p hp9 hq9 => by rcases Nat.lt_or_ge p i with z9 | z9; exact hno p z9 hq9; rw [show p = i by omega]; exact fun z8 => hc4 z8.symm) ls H locs hl hP hD hS
            · refine lv_iload hx hb d_M_other_57 (lv_at hl 1 rfl) ?_
              exact rk_iret (nI 0) hx hb hr hlocks (Or.inl ⟨i, by omega, hf, hc4.symm, rfl, rfl⟩) rfl hP hK hD hS d_M_other_59
          · refine lv_goto (tgt := 60) hx hb d_M_other_46 (by decide) ?_
            have hf : (rk_came h k z) i = false := rk_came_o (fun z9 => hc3 (zI_inj.mpr z9))
            refine lv_iinc (k := 0) (v := nI (i + 1)) (lv' := [(4, .int (nI (i + 1))), (3, .int n), (0, .ref h0), (1, .int x), (2, .int (zI z))]) hx hb d_M_other_60 hl rfl (nI_1 i) (by decide) rfl (fun ls hl => ?_)
            refine lv_goto (tgt := 10) hx hb d_M_other_63 (by decide) ?_
            exact ih (i + 1) (by omega) (by omega) n (by rw [rk_c_f hf]; exact hn) (fun p hp9 hq9 => by rcases Nat.lt_or_ge p i with z9 | z9; exact hno p z9 hq9; rw [show p = i by omega, hf] at hq9; cases hq9) ls H locs hl hP hD hS
  exact lp 1025 0 (by omega) (by omega) (-1) (show nI 0 = -1 + Int32.ofInt 1 by decide) (fun p hp9 => by omega) ls _ _ hl hP hD hS
set_option maxHeartbeats 4000000 in
set_option maxRecDepth 100000 in
theorem c_M_came (l : Launch) (dC : Nat → ClassId) (dI : Nat → Nat → Nat) (cI cZ cJ : ClassId) (sz : Nat) (h0 qt qn qp qb qf qh qd : Nat) (th : Int32) (g : Nat) (h k : Nat → Bool) (x : Int32) : Met l y_M_came (.code y_M_came b_M_came 2 (some .int) :: WT) { frames := 1, cells := 0, slots := 0, locals := 24 } (va_Pc [.ref h0, .int x] (rk_pre (dC, dI) [(cI, .int), (cZ, .boolean), (cJ, .long)] sz [(h0, .inr (2, [.int th, .int (nI g), .ref qt, .ref qn, .ref qp, .ref qb, .ref qf, .ref qh, .ref qd])), (qh, .inl (cZ, 1024, .inl (fun p => zI (h p)))), (qd, .inl (cZ, 1024, .inl (fun p => zI (k p))))])) (va_Qi (fun (r : Int32) (u : Int32) => rk_otM (rk_came h k true) x r u) (fun u s9 => rk_at (dC, dI) [(cI, .int), (cZ, .boolean), (cJ, .long)] (va_A [(h0, .inr (2, [.int th, .int (nI g), .ref qt, .ref qn, .ref qp, .ref qb, .ref qf, .ref qh, .ref qd])), (qh, .inl (cZ, 1024, .inl (fun p => zI (h p)))), (qd, .inl (cZ, 1024, .inl (fun p => zI (k p))))] sz) [(h0, .inr (2, [.int u, .int (nI g), .ref qt, .ref qn, .ref qp, .ref qb, .ref qf, .ref qh, .ref qd])), (qh, .inl (cZ, 1024, .inl (fun p => zI (h p)))), (qd, .inl (cZ, 1024, .inl (fun p => zI (k p))))] s9) (va_A [(h0, .inr (2, [.int th, .int (nI g), .ref qt, .ref qn, .ref qp, .ref qb, .ref qf, .ref qh, .ref qd])), (qh, .inl (cZ, 1024, .inl (fun p => zI (h p)))), (qd, .inl (cZ, 1024, .inl (fun p => zI (k p))))] sz)) 0 0 (va_A [(h0, .inr (2, [.int th, .int (nI g), .ref qt, .ref qn, .ref qp, .ref qb, .ref qf, .ref qh, .ref qd])), (qh, .inl (cZ, 1024, .inl (fun p => zI (h p)))), (qd, .inl (cZ, 1024, .inl (fun p => zI (k p))))] sz) := by
  refine rk_body (by decide) (Nat.le_of_ble_eq_true rfl) ?_
  intro p e s m below meth c hx hb hml hr htw hown hlocks hin hsz hP hK hD hA hS ls hl
  have hown : s.vm.findClass R_M = some m.cls := hown
  have hl : lv_has ls 2 [(0, .ref h0), (1, .int x)] := hl
  refine lv_aload_n hx hb d_M_came_0 rfl (lv_at hl 0 rfl) ?_
  refine lv_iload_n hx hb d_M_came_1 rfl (lv_at hl 1 rfl) ?_
  refine lv_iconst (v := zI true) hx hb d_M_came_2 (by decide) ?_
  refine rk_backi (wc := [(h0, .inr (2, [.int th, .int (nI g), .ref qt, .ref qn, .ref qp, .ref qb, .ref qf, .ref qh, .ref qd])), (qh, .inl (cZ, 1024, .inl (fun p => zI (h p)))), (qd, .inl (cZ, 1024, .inl (fun p => zI (k p))))]) (wr := []) (va_runV (As := [.int x, .int (zI true)]) (rest := []) ⟨hx, hb, hml, hown, htw⟩ (c_M_other l dC dI cI cZ cJ _ h0 qt qn qp qb qf qh qd th g h k x true) (rk_cwV 2 htw gc_M_came_3 (by decide +kernel) ⟨(Nat.le_of_ble_eq_true rfl), (Nat.le_of_ble_eq_true rfl)⟩) (⟨rk_blind, va_recv hK hP (ci := 2) rfl (q0 := 0) rfl, rk_give (rk_psub (isC := [0, 1, 2]) hP rfl) hK (hD.sub [0, 1, 2] rfl rfl)⟩) rfl rfl hl.1 rfl (lv_room (Nat.le_of_ble_eq_true rfl)) d_M_came_3 ⟨(Nat.le_of_ble_eq_true rfl), (Nat.le_of_ble_eq_true rfl)⟩) hP hD hS hA [0, 1, 2] [] rfl rfl rfl (by decide) (fun x5 u5 H locs hp hP hD hS => ?_)
  have hP : va_P (dC, dI) classes [(h0, .inr (2, [.int u5, .int (nI g), .ref qt, .ref qn, .ref qp, .ref qb, .ref qf, .ref qh, .ref qd])), (qh, .inl (cZ, 1024, .inl (fun p => zI (h p)))), (qd, .inl (cZ, 1024, .inl (fun p => zI (k p))))] H := hP
  have hD : va_D _ [(h0, .inr (2, [.int u5, .int (nI g), .ref qt, .ref qn, .ref qp, .ref qb, .ref qf, .ref qh, .ref qd])), (qh, .inl (cZ, 1024, .inl (fun p => zI (h p)))), (qd, .inl (cZ, 1024, .inl (fun p => zI (k p))))] := hD
  exact rk_iret (u5) hx hb hr hlocks (hp) rfl hP hK hD hS d_M_came_6
set_option maxHeartbeats 4000000 in
set_option maxRecDepth 100000 in
theorem c_M_went (l : Launch) (dC : Nat → ClassId) (dI : Nat → Nat → Nat) (cI cZ cJ : ClassId) (sz : Nat) (h0 qt qn qp qb qf qh qd : Nat) (th : Int32) (g : Nat) (h k : Nat → Bool) (x : Int32) : Met l y_M_went (.code y_M_went b_M_went 2 (some .int) :: WT) { frames := 1, cells := 0, slots := 0, locals := 24 } (va_Pc [.ref h0, .int x] (rk_pre (dC, dI) [(cI, .int), (cZ, .boolean), (cJ, .long)] sz [(h0, .inr (2, [.int th, .int (nI g), .ref qt, .ref qn, .ref qp, .ref qb, .ref qf, .ref qh, .ref qd])), (qh, .inl (cZ, 1024, .inl (fun p => zI (h p)))), (qd, .inl (cZ, 1024, .inl (fun p => zI (k p))))])) (va_Qi (fun (r : Int32) (u : Int32) => rk_otM (rk_came h k false) x r u) (fun u s9 => rk_at (dC, dI) [(cI, .int), (cZ, .boolean), (cJ, .long)] (va_A [(h0, .inr (2, [.int th, .int (nI g), .ref qt, .ref qn, .ref qp, .ref qb, .ref qf, .ref qh, .ref qd])), (qh, .inl (cZ, 1024, .inl (fun p => zI (h p)))), (qd, .inl (cZ, 1024, .inl (fun p => zI (k p))))] sz) [(h0, .inr (2, [.int u, .int (nI g), .ref qt, .ref qn, .ref qp, .ref qb, .ref qf, .ref qh, .ref qd])), (qh, .inl (cZ, 1024, .inl (fun p => zI (h p)))), (qd, .inl (cZ, 1024, .inl (fun p => zI (k p))))] s9) (va_A [(h0, .inr (2, [.int th, .int (nI g), .ref qt, .ref qn, .ref qp, .ref qb, .ref qf, .ref qh, .ref qd])), (qh, .inl (cZ, 1024, .inl (fun p => zI (h p)))), (qd, .inl (cZ, 1024, .inl (fun p => zI (k p))))] sz)) 0 0 (va_A [(h0, .inr (2, [.int th, .int (nI g), .ref qt, .ref qn, .ref qp, .ref qb, .ref qf, .ref qh, .ref qd])), (qh, .inl (cZ, 1024, .inl (fun p => zI (h p)))), (qd, .inl (cZ, 1024, .inl (fun p => zI (k p))))] sz) := by
  refine rk_body (by decide) (Nat.le_of_ble_eq_true rfl) ?_
  intro p e s m below meth c hx hb hml hr htw hown hlocks hin hsz hP hK hD hA hS ls hl
  have hown : s.vm.findClass R_M = some m.cls := hown
  have hl : lv_has ls 2 [(0, .ref h0), (1, .int x)] := hl
  refine lv_aload_n hx hb d_M_went_0 rfl (lv_at hl 0 rfl) ?_
  refine lv_iload_n hx hb d_M_went_1 rfl (lv_at hl 1 rfl) ?_
  refine lv_iconst (v := zI false) hx hb d_M_went_2 (by decide) ?_
  refine rk_backi (wc := [(h0, .inr (2, [.int th, .int (nI g), .ref qt, .ref qn, .ref qp, .ref qb, .ref qf, .ref qh, .ref qd])), (qh, .inl (cZ, 1024, .inl (fun p => zI (h p)))), (qd, .inl (cZ, 1024, .inl (fun p => zI (k p))))]) (wr := []) (va_runV (As := [.int x, .int (zI false)]) (rest := []) ⟨hx, hb, hml, hown, htw⟩ (c_M_other l dC dI cI cZ cJ _ h0 qt qn qp qb qf qh qd th g h k x false) (rk_cwV 2 htw gc_M_went_3 (by decide +kernel) ⟨(Nat.le_of_ble_eq_true rfl), (Nat.le_of_ble_eq_true rfl)⟩) (⟨rk_blind, va_recv hK hP (ci := 2) rfl (q0 := 0) rfl, rk_give (rk_psub (isC := [0, 1, 2]) hP rfl) hK (hD.sub [0, 1, 2] rfl rfl)⟩) rfl rfl hl.1 rfl (lv_room (Nat.le_of_ble_eq_true rfl)) d_M_went_3 ⟨(Nat.le_of_ble_eq_true rfl), (Nat.le_of_ble_eq_true rfl)⟩) hP hD hS hA [0, 1, 2] [] rfl rfl rfl (by decide) (fun x5 u5 H locs hp hP hD hS => ?_)
  have hP : va_P (dC, dI) classes [(h0, .inr (2, [.int u5, .int (nI g), .ref qt, .ref qn, .ref qp, .ref qb, .ref qf, .ref qh, .ref qd])), (qh, .inl (cZ, 1024, .inl (fun p => zI (h p)))), (qd, .inl (cZ, 1024, .inl (fun p => zI (k p))))] H := hP
  have hD : va_D _ [(h0, .inr (2, [.int u5, .int (nI g), .ref qt, .ref qn, .ref qp, .ref qb, .ref qf, .ref qh, .ref qd])), (qh, .inl (cZ, 1024, .inl (fun p => zI (h p)))), (qd, .inl (cZ, 1024, .inl (fun p => zI (k p))))] := hD
  exact rk_iret (u5) hx hb hr hlocks (hp) rfl hP hK hD hS d_M_went_6
set_option maxHeartbeats 4000000 in
set_option maxRecDepth 100000 in
theorem c_M_times (l : Launch) (dC : Nat → ClassId) (dI : Nat → Nat → Nat) (cI cZ cJ : ClassId) (sz : Nat) (h0 qt qn qp qb qf qh qd : Nat) (th : Int32) (g : Nat) (t : Nat → Int32) (x y : Int32) : Met l y_M_times (.code y_M_times b_M_times 3 (some .int) :: WT) { frames := 1, cells := 0, slots := 0, locals := 20 } (va_Pc [.ref h0, .int x, .int y] (rk_pre (dC, dI) [(cI, .int), (cZ, .boolean), (cJ, .long)] sz [(h0, .inr (2, [.int th, .int (nI g), .ref qt, .ref qn, .ref qp, .ref qb, .ref qf, .ref qh, .ref qd])), (qt, .inl (cI, 1024, .inl t))])) (va_Qi (fun (r : Int32) (u : Int32) => rk_tiM t x y r u) (fun u s9 => rk_at (dC, dI) [(cI, .int), (cZ, .boolean), (cJ, .long)] (va_A [(h0, .inr (2, [.int th, .int (nI g), .ref qt, .ref qn, .ref qp, .ref qb, .ref qf, .ref qh, .ref qd])), (qt, .inl (cI, 1024, .inl t))] sz) [(h0, .inr (2, [.int u, .int (nI g), .ref qt, .ref qn, .ref qp, .ref qb, .ref qf, .ref qh, .ref qd])), (qt, .inl (cI, 1024, .inl t))] s9) (va_A [(h0, .inr (2, [.int th, .int (nI g), .ref qt, .ref qn, .ref qp, .ref qb, .ref qf, .ref qh, .ref qd])), (qt, .inl (cI, 1024, .inl t))] sz)) 0 0 (va_A [(h0, .inr (2, [.int th, .int (nI g), .ref qt, .ref qn, .ref qp, .ref qb, .ref qf, .ref qh, .ref qd])), (qt, .inl (cI, 1024, .inl t))] sz) := by
  refine rk_body (by decide) (Nat.le_of_ble_eq_true rfl) ?_
  intro p e s m below meth c hx hb hml hr htw hown hlocks hin hsz hP hK hD hA hS ls hl
  have hown : s.vm.findClass R_M = some m.cls := hown
  have hl : lv_has ls 3 [(0, .ref h0), (1, .int x), (2, .int y)] := hl
  refine lv_aload_n hx hb d_M_times_0 rfl (lv_at hl 0 rfl) ?_
  refine lv_iload_n hx hb d_M_times_1 rfl (lv_at hl 1 rfl) ?_
  refine rk_backi (wc := []) (wr := [(h0, .inr (2, [.int th, .int (nI g), .ref qt, .ref qn, .ref qp, .ref qb, .ref qf, .ref qh, .ref qd])), (qt, .inl (cI, 1024, .inl t))]) (va_runS (As := [.int x]) (rest := [.ref h0]) ⟨hx, hb, hml, hown, htw⟩ (c_M_isVertex l dC dI cI cZ cJ _ x) (rk_cwS 1 htw gc_M_times_2 (by decide +kernel) ⟨(Nat.le_of_ble_eq_true rfl), (Nat.le_of_ble_eq_true rfl)⟩) (⟨rk_blind, rk_give (rk_psub (isC := []) hP rfl) hK (hD.sub [] rfl rfl)⟩) rfl rfl hl.1 rfl (lv_room (Nat.le_of_ble_eq_true rfl)) d_M_times_2 ⟨(Nat.le_of_ble_eq_true rfl), (Nat.le_of_ble_eq_true rfl)⟩) hP hD hS hA [] [0, 1] rfl rfl rfl (by decide) (fun x5 u5 H locs hp hP hD hS => ?_)
  subst hp
  have hP : va_P (dC, dI) classes [(h0, .inr (2, [.int th, .int (nI g), .ref qt, .ref qn, .ref qp, .ref qb, .ref qf, .ref qh, .ref qd])), (qt, .inl (cI, 1024, .inl t))] H := hP
  have hD : va_D _ [(h0, .inr (2, [.int th, .int (nI g), .ref qt, .ref qn, .ref qp, .ref qb, .ref qf, .ref qh, .ref qd])), (qt, .inl (cI, 1024, .inl t))] := hD
  refine lv_if_eq (tgt := 19) hx hb d_M_times_5 (by decide) (fun hc => ?_) (fun hc => ?_)
  · have hv : (rk_v x && rk_v y) = false := by rw [zI_0.mp hc]; rfl
    refine lv_iconst (v := nI 1) hx hb d_M_times_19 (by decide) ?_
    refine va_put (D := (dC, dI)) (ci := 2) (v := .int (nI 1)) (ty := .int) (C := R_M) (T := F_M) (N := 9) hx hb htw u_M t_M t_M_ok n_M hown hK hP hD hS 0 rfl rfl 0 (by decide) (htw _ l_M_32) (fun _ h9 => h9) rfl (by decide +kernel) rfl rfl (Nat.le_of_ble_eq_true rfl) d_M_times_20 (fun H locs hP hD hS => ?_)
    have hP : va_P (dC, dI) classes [(h0, .inr (2, [.int (nI 1), .int (nI g), .ref qt, .ref qn, .ref qp, .ref qb, .ref qf, .ref qh, .ref qd])), (qt, .inl (cI, 1024, .inl t))] H := hP
    have hD : va_D _ [(h0, .inr (2, [.int (nI 1), .int (nI g), .ref qt, .ref qn, .ref qp, .ref qb, .ref qf, .ref qh, .ref qd])), (qt, .inl (cI, 1024, .inl t))] := hD
    refine lv_aload_n hx hb d_M_times_23 rfl (lv_at hl 0 rfl) ?_
    refine va_get (D := (dC, dI)) (ci := 2) (v := .int (nI 1)) (C := R_M) (T := F_M) (N := 9) hx hb htw u_M hown hK hP 0 rfl rfl 0 (by decide) (htw _ l_M_32) (fun _ h9 => h9) rfl d_M_times_24 ?_
    refine lv_if_le (tgt := 34) hx hb d_M_times_27 (by decide) (fun hd1 => ?_) (fun hd1 => ?_)
    · exact absurd hd1 (by decide)
    · refine lv_iconst (v := nI 0) hx hb d_M_times_30 (by decide) ?_
      refine lv_goto (tgt := 45) hx hb d_M_times_31 (by decide) ?_
      exact rk_iret (nI 1) hx hb hr hlocks (Or.inl ⟨hv, rfl⟩) rfl hP hK hD hS d_M_times_45
  · refine lv_iload_n hx hb d_M_times_8 rfl (lv_at hl 2 rfl) ?_
    refine rk_backi (wc := []) (wr := [(h0, .inr (2, [.int th, .int (nI g), .ref qt, .ref qn, .ref qp, .ref qb, .ref qf, .ref qh, .ref qd])), (qt, .inl (cI, 1024, .inl t))]) (va_runS (As := [.int y]) (rest := [.ref h0]) ⟨hx, hb, hml, hown, htw⟩ (c_M_isVertex l dC dI cI cZ cJ _ y) (rk_cwS 1 htw gc_M_times_9 (by decide +kernel) ⟨(Nat.le_of_ble_eq_true rfl), (Nat.le_of_ble_eq_true rfl)⟩) (⟨rk_blind, rk_give (rk_psub (isC := []) hP rfl) hK (hD.sub [] rfl rfl)⟩) rfl rfl hl.1 rfl (lv_room (Nat.le_of_ble_eq_true rfl)) d_M_times_9 ⟨(Nat.le_of_ble_eq_true rfl), (Nat.le_of_ble_eq_true rfl)⟩) hP hD hS hA [] [0, 1] rfl rfl rfl (by decide) (fun x6 u6 H locs hp hP hD hS => ?_)
    subst hp
    have hP : va_P (dC, dI) classes [(h0, .inr (2, [.int th, .int (nI g), .ref qt, .ref qn, .ref qp, .ref qb, .ref qf, .ref qh, .ref qd])), (qt, .inl (cI, 1024, .inl t))] H := hP
    have hD : va_D _ [(h0, .inr (2, [.int th, .int (nI g), .ref qt, .ref qn, .ref qp, .ref qb, .ref qf, .ref qh, .ref qd])), (qt, .inl (cI, 1024, .inl t))] := hD
    refine lv_if_eq (tgt := 19) hx hb d_M_times_12 (by decide) (fun hc2 => ?_) (fun hc2 => ?_)
    · have hv : (rk_v x && rk_v y) = false := by rw [zI_0.mp hc2]; exact Bool.and_false _
      refine lv_iconst (v := nI 1) hx hb d_M_times_19 (by decide) ?_
      refine va_put (D := (dC, dI)) (ci := 2) (v := .int (nI 1)) (ty := .int) (C := R_M) (T := F_M) (N := 9) hx hb htw u_M t_M t_M_ok n_M hown hK hP hD hS 0 rfl rfl 0 (by decide) (htw _ l_M_32) (fun _ h9 => h9) rfl (by decide +kernel) rfl rfl (Nat.le_of_ble_eq_true rfl) d_M_times_20 (fun H locs hP hD hS => ?_)
      have hP : va_P (dC, dI) classes [(h0, .inr (2, [.int (nI 1), .int (nI g), .ref qt, .ref qn, .ref qp, .ref qb, .ref qf, .ref qh, .ref qd])), (qt, .inl (cI, 1024, .inl t))] H := hP
      have hD : va_D _ [(h0, .inr (2, [.int (nI 1), .int (nI g), .ref qt, .ref qn, .ref qp, .ref qb, .ref qf, .ref qh, .ref qd])), (qt, .inl (cI, 1024, .inl t))] := hD
      refine lv_aload_n hx hb d_M_times_23 rfl (lv_at hl 0 rfl) ?_
      refine va_get (D := (dC, dI)) (ci := 2) (v := .int (nI 1)) (C := R_M) (T := F_M) (N := 9) hx hb htw u_M hown hK hP 0 rfl rfl 0 (by decide) (htw _ l_M_32) (fun _ h9 => h9) rfl d_M_times_24 ?_
      refine lv_if_le (tgt := 34) hx hb d_M_times_27 (by decide) (fun hd1 => ?_) (fun hd1 => ?_)
      · exact absurd hd1 (by decide)
      · refine lv_iconst (v := nI 0) hx hb d_M_times_30 (by decide) ?_
        refine lv_goto (tgt := 45) hx hb d_M_times_31 (by decide) ?_
        exact rk_iret (nI 1) hx hb hr hlocks (Or.inl ⟨hv, rfl⟩) rfl hP hK hD hS d_M_times_45
    · obtain ⟨a, ha, rfl⟩ := rk_v_t (zI_n.mp hc)
      obtain ⟨b, hb32, rfl⟩ := rk_v_t (zI_n.mp hc2)
      refine lv_iconst (v := nI 0) hx hb d_M_times_15 (by decide) ?_
      refine lv_goto (tgt := 20) hx hb d_M_times_16 (by decide) ?_
      refine va_put (D := (dC, dI)) (ci := 2) (v := .int (nI 0)) (ty := .int) (C := R_M) (T := F_M) (N := 9) hx hb htw u_M t_M t_M_ok n_M hown hK hP hD hS 0 rfl rfl 0 (by decide) (htw _ l_M_32) (fun _ h9 => h9) rfl (by decide +kernel) rfl rfl (Nat.le_of_ble_eq_true rfl) d_M_times_20 (fun H locs hP hD hS => ?_)
      have hP : va_P (dC, dI) classes [(h0, .inr (2, [.int (nI 0), .int (nI g), .ref qt, .ref qn, .ref qp, .ref qb, .ref qf, .ref qh, .ref qd])), (qt, .inl (cI, 1024, .inl t))] H := hP
      have hD : va_D _ [(h0, .inr (2, [.int (nI 0), .int (nI g), .ref qt, .ref qn, .ref qp, .ref qb, .ref qf, .ref qh, .ref qd])), (qt, .inl (cI, 1024, .inl t))] := hD
      refine lv_aload_n hx hb d_M_times_23 rfl (lv_at hl 0 rfl) ?_
      refine va_get (D := (dC, dI)) (ci := 2) (v := .int (nI 0)) (C := R_M) (T := F_M) (N := 9) hx hb htw u_M hown hK hP 0 rfl rfl 0 (by decide) (htw _ l_M_32) (fun _ h9 => h9) rfl d_M_times_24 ?_
      refine lv_if_le (tgt := 34) hx hb d_M_times_27 (by decide) (fun hd1 => ?_) (fun hd1 => ?_)
      · refine lv_aload_n hx hb d_M_times_34 rfl (lv_at hl 0 rfl) ?_
        refine va_get (D := (dC, dI)) (ci := 2) (v := .ref qt) (C := R_M) (T := F_M) (N := 9) hx hb htw u_M hown hK hP 0 rfl rfl 2 (by decide) (htw _ l_M_9) (fun _ h9 => h9) rfl d_M_times_35 ?_
        refine lv_bipush (v := nI 32) hx hb d_M_times_38 (by decide) ?_
        refine lv_iload_n hx hb d_M_times_40 rfl (lv_at hl 1 rfl) ?_
        refine lv_imul hx hb d_M_times_41 ?_
        refine rk_top (y := nI (32 * a)) (pk_mul 32 a) ?_
        refine lv_iload_n hx hb d_M_times_42 rfl (lv_at hl 2 rfl) ?_
        refine lv_iadd hx hb d_M_times_43 ?_
        refine rk_top (y := nI (32 * a + b)) (nI_add (32 * a) b) ?_
        refine va_iald hx hb hK hP 1 0 rfl rfl (vp_in_nI (n := 32 * a + b) (show 32 * a + b < 1024 by omega) (by decide)) d_M_times_44 ?_
        refine rk_top (y := t (32 * a + b)) (congrArg t (nI_clamp (show 32 * a + b < 2 ^ 31 by omega))) ?_
        exact rk_iret (nI 0) hx hb hr hlocks (Or.inr ⟨a, b, ha, hb32, rfl, rfl, rfl, rfl⟩) rfl hP hK hD hS d_M_times_45
      · exact absurd (by decide : (nI 0 : Int32) ≤ 0) hd1
end
section
set_option maxHeartbeats 4000000 in
set_option maxRecDepth 100000 in
theorem c_M_apply (l : Launch) (dC : Nat → ClassId) (dI : Nat → Nat → Nat) (cI cZ cJ : ClassId) (sz : Nat) (h0 qt qn qp qb qf qh qd : Nat) (th : Int32) (g : Nat) (hg : g ≤ 60) (t n0 pl by_ : Nat → Int32) (pp : Nat → Nat) (hpl : ∀ i, i < g → pl i = nI (pp i) ∧ pp i < 1024) (h k : Nat → Bool) : Met l y_M_apply (.code y_M_apply b_M_apply 4 (some .int) :: WT) { frames := 1, cells := 0, slots := 0, locals := 23 } (va_Pc [.ref h0] (rk_pre (dC, dI) [(cI, .int), (cZ, .boolean), (cJ, .long)] sz [(h0, .inr (2, [.int th, .int (nI g), .ref qt, .ref qn, .ref qp, .ref qb, .ref qf, .ref qh, .ref qd])), (qt, .inl (cI, 1024, .inl t)), (qn, .inl (cI, 1024, .inl n0)), (qp, .inl (cI, 60, .inl pl)), (qb, .inl (cI, 60, .inl by_)), (qh, .inl (cZ, 1024, .inl (fun p => zI (h p)))), (qd, .inl (cZ, 1024, .inl (fun p => zI (k p))))])) (va_Qi (fun (r : Int32) (u : Int32 × Nat × (Nat → Int32) × (Nat → Int32) × (Nat → Bool) × (Nat → Bool)) => rk_apM g t pp by_ h k r u) (fun u s9 => rk_at (dC, dI) [(cI, .int), (cZ, .boolean), (cJ, .long)] (va_A [(h0, .inr (2, [.int th, .int (nI g), .ref qt, .ref qn, .ref qp, .ref qb, .ref qf, .ref qh, .ref qd])), (qt, .inl (cI, 1024, .inl t)), (qn, .inl (cI, 1024, .inl n0)), (qp, .inl (cI, 60, .inl pl)), (qb, .inl (cI, 60, .inl by_)), (qh, .inl (cZ, 1024, .inl (fun p => zI (h p)))), (qd, .inl (cZ, 1024, .inl (fun p => zI (k p))))] sz) [(h0, .inr (2, [.int (u.1), .int (nI u.2.1), .ref qt, .ref qn, .ref qp, .ref qb, .ref qf, .ref qh, .ref qd])), (qt, .inl (cI, 1024, .inl u.2.2.1)), (qn, .inl (cI, 1024, .inl u.2.2.2.1)), (qp, .inl (cI, 60, .inl pl)), (qb, .inl (cI, 60, .inl by_)), (qh, .inl (cZ, 1024, .inl (fun p => zI (u.2.2.2.2.1 p)))), (qd, .inl (cZ, 1024, .inl (fun p => zI (u.2.2.2.2.2 p))))] s9) (va_A [(h0, .inr (2, [.int th, .int (nI g), .ref qt, .ref qn, .ref qp, .ref qb, .ref qf, .ref qh, .ref qd])), (qt, .inl (cI, 1024, .inl t)), (qn, .inl (cI, 1024, .inl n0)), (qp, .inl (cI, 60, .inl pl)), (qb, .inl (cI, 60, .inl by_)), (qh, .inl (cZ, 1024, .inl (fun p => zI (h p)))), (qd, .inl (cZ, 1024, .inl (fun p => zI (k p))))] sz)) 0 0 (va_A [(h0, .inr (2, [.int th, .int (nI g), .ref qt, .ref qn, .ref qp, .ref qb, .ref qf, .ref qh, .ref qd])), (qt, .inl (cI, 1024, .inl t)), (qn, .inl (cI, 1024, .inl n0)), (qp, .inl (cI, 60, .inl pl)), (qb, .inl (cI, 60, .inl by_)), (qh, .inl (cZ, 1024, .inl (fun p => zI (h p)))), (qd, .inl (cZ, 1024, .inl (fun p => zI (k p))))] sz) := by
  refine rk_body (by decide) (Nat.le_of_ble_eq_true rfl) ?_
  intro p e s m below meth c hx hb hml hr htw hown hlocks hin hsz hP hK hD hA hS ls hl
  have hown : s.vm.findClass R_M = some m.cls := hown
  have hl : lv_has ls 4 [(0, .ref h0)] := hl
  refine lv_iconst (v := nI 0) hx hb d_M_apply_0 (by decide) ?_
  refine lv_istore_n (lv' := [(1, .int (nI 0)), (0, .ref h0)]) hx hb d_M_apply_1 rfl hl (by decide) rfl (fun ls hl => ?_)
  have lp : ∀ (kf : Nat) (i : Nat), 1024 - i < kf → i ≤ 1024 → ∀ x : Nat → Int32, (∀ j, j < i → x j = t j) → ∀ (ls : Array Slot) (H : Heap) (locs : List Loc), lv_has ls 4 [(1, .int (nI i)), (0, .ref h0)] → va_P (dC, dI) classes [(h0, .inr (2, [.int th, .int (nI g), .ref qt, .ref qn, .ref qp, .ref qb, .ref qf, .ref qh, .ref qd])), (qt, .inl (cI, 1024, .inl t)), (qn, .inl (cI, 1024, .inl x)), (qp, .inl (cI, 60, .inl pl)), (qb, .inl (cI, 60, .inl by_)), (qh, .inl (cZ, 1024, .inl (fun p => zI (h p)))), (qd, .inl (cZ, 1024, .inl (fun p => zI (k p))))] H → va_D (va_A [(h0, .inr (2, [.int th, .int (nI g), .ref qt, .ref qn, .ref qp, .ref qb, .ref qf, .ref qh, .ref qd])), (qt, .inl (cI, 1024, .inl t)), (qn, .inl (cI, 1024, .inl n0)), (qp, .inl (cI, 60, .inl pl)), (qb, .inl (cI, 60, .inl by_)), (qh, .inl (cZ, 1024, .inl (fun p => zI (h p)))), (qd, .inl (cZ, 1024, .inl (fun p => zI (k p))))] sz) [(h0, .inr (2, [.int th, .int (nI g), .ref qt, .ref qn, .ref qp, .ref qb, .ref qf, .ref qh, .ref qd])), (qt, .inl (cI, 1024, .inl t)), (qn, .inl (cI, 1024, .inl x)), (qp, .inl (cI, 60, .inl pl)), (qb, .inl (cI, 60, .inl by_)), (qh, .inl (cZ, 1024, .inl (fun p => zI (h p)))), (qd, .inl (cZ, 1024, .inl (fun p => zI (k p))))] → va_S (va_A [(h0, .inr (2, [.int th, .int (nI g), .ref qt, .ref qn, .ref qp, .ref qb, .ref qf, .ref qh, .ref qd])), (qt, .inl (cI, 1024, .inl t)), (qn, .inl (cI, 1024, .inl n0)), (qp, .inl (cI, 60, .inl pl)), (qb, .inl (cI, 60, .inl by_)), (qh, .inl (cZ, 1024, .inl (fun p => zI (h p)))), (qd, .inl (cZ, 1024, .inl (fun p => zI (k p))))] sz) s.heap H locs → W p l e { frames := 1, cells := 0, slots := 0, locals := 23 } s m ([.ref h0]).toArray below meth c H locs 0 0 (MQ below (va_Qi (fun (r : Int32) (u : Int32 × Nat × (Nat → Int32) × (Nat → Int32) × (Nat → Bool) × (Nat → Bool)) => rk_apM g t pp by_ h k r u) (fun u s9 => rk_at (dC, dI) [(cI, .int), (cZ, .boolean), (cJ, .long)] (va_A [(h0, .inr (2, [.int th, .int (nI g), .ref qt, .ref qn, .ref qp, .ref qb, .ref qf, .ref qh, .ref qd])), (qt, .inl (cI, 1024, .inl t)), (qn, .inl (cI, 1024, .inl n0)), (qp, .inl (cI, 60, .inl pl)), (qb, .inl (cI, 60, .inl by_)), (qh, .inl (cZ, 1024, .inl (fun p => zI (h p)))), (qd, .inl (cZ, 1024, .inl (fun p => zI (k p))))] sz) [(h0, .inr (2, [.int (u.1), .int (nI u.2.1), .ref qt, .ref qn, .ref qp, .ref qb, .ref qf, .ref qh, .ref qd])), (qt, .inl (cI, 1024, .inl u.2.2.1)), (qn, .inl (cI, 1024, .inl u.2.2.2.1)), (qp, .inl (cI, 60, .inl pl)), (qb, .inl (cI, 60, .inl by_)), (qh, .inl (cZ, 1024, .inl (fun p => zI (u.2.2.2.2.1 p)))), (qd, .inl (cZ, 1024, .inl (fun p => zI (u.2.2.2.2.2 p))))] s9) (va_A [(h0, .inr (2, [.int th, .int (nI g), .ref qt, .ref qn, .ref qp, .ref qb, .ref qf, .ref qh, .ref qd])), (qt, .inl (cI, 1024, .inl t)), (qn, .inl (cI, 1024, .inl n0)), (qp, .inl (cI, 60, .inl pl)), (qb, .inl (cI, 60, .inl by_)), (qh, .inl (cZ, 1024, .inl (fun p => zI (h p)))), (qd, .inl (cZ, 1024, .inl (fun p => zI (k p))))] sz)) ([.ref h0]).toArray s 0 0 (va_A [(h0, .inr (2, [.int th, .int (nI g), .ref qt, .ref qn, .ref qp, .ref qb, .ref qf, .ref qh, .ref qd])), (qt, .inl (cI, 1024, .inl t)), (qn, .inl (cI, 1024, .inl n0)), (qp, .inl (cI, 60, .inl pl)), (qb, .inl (cI, 60, .inl by_)), (qh, .inl (cZ, 1024, .inl (fun p => zI (h p)))), (qd, .inl (cZ, 1024, .inl (fun p => zI (k p))))] sz)) (F0 m 2 ls []) := by
    intro kf
    induction kf with
    | zero => intro i hk hi x hx0; exact absurd hk (by omega)
    | succ kf ih =>
      intro i hk hi x hx0 ls H locs hl hP hD hS
      refine lv_iload_n hx hb d_M_apply_2 rfl (lv_at hl 0 rfl) ?_
      refine lv_sipush (v := nI 1024) hx hb d_M_apply_3 (by decide) ?_
      refine lv_icmp_ge (tgt := 27) hx hb d_M_apply_6 (by decide) (fun hc => ?_) (fun hc => ?_)
      · have hc := (nI_leI (by omega) (by omega)).mp hc
        refine lv_iconst (v := nI 0) hx hb d_M_apply_27 (by decide) ?_
        refine lv_istore_n (lv' := [(1, .int (nI 0)), (0, .ref h0)]) hx hb d_M_apply_28 rfl hl (by decide) rfl (fun ls hl => ?_)
        have lp2 : ∀ (kf2 : Nat) (i : Nat), g - i < kf2 → i ≤ g → ∀ nn : Nat → Int32, (∀ p, p < 1024 → nn p = t p + rk_s pp by_ i p) → ∀ (ls : Array Slot) (H : Heap) (locs : List Loc), lv_has ls 4 [(1, .int (nI i)), (0, .ref h0)] → va_P (dC, dI) classes [(h0, .inr (2, [.int th, .int (nI g), .ref qt, .ref qn, .ref qp, .ref qb, .ref qf, .ref qh, .ref qd])), (qt, .inl (cI, 1024, .inl t)), (qn, .inl (cI, 1024, .inl nn)), (qp, .inl (cI, 60, .inl pl)), (qb, .inl (cI, 60, .inl by_)), (qh, .inl (cZ, 1024, .inl (fun p => zI (h p)))), (qd, .inl (cZ, 1024, .inl (fun p => zI (k p))))] H → va_D (va_A [(h0, .inr (2, [.int th, .int (nI g), .ref qt, .ref qn, .ref qp, .ref qb, .ref qf, .ref qh, .ref qd])), (qt, .inl (cI, 1024, .inl t)), (qn, .inl (cI, 1024, .inl n0)), (qp, .inl (cI, 60, .inl pl)), (qb, .inl (cI, 60, .inl by_)), (qh, .inl (cZ, 1024, .inl (fun p => zI (h p)))), (qd, .inl (cZ, 1024, .inl (fun p => zI (k p))))] sz) [(h0, .inr (2, [.int th, .int (nI g), .ref qt, .ref qn, .ref qp, .ref qb, .ref qf, .ref qh, .ref qd])), (qt, .inl (cI, 1024, .inl t)), (qn, .inl (cI, 1024, .inl nn)), (qp, .inl (cI, 60, .inl pl)), (qb, .inl (cI, 60, .inl by_)), (qh, .inl (cZ, 1024, .inl (fun p => zI (h p)))), (qd, .inl (cZ, 1024, .inl (fun p => zI (k p))))] → va_S (va_A [(h0, .inr (2, [.int th, .int (nI g), .ref qt, .ref qn, .ref qp, .ref qb, .ref qf, .ref qh, .ref qd])), (qt, .inl (cI, 1024, .inl t)), (qn, .inl (cI, 1024, .inl n0)), (qp, .inl (cI, 60, .inl pl)), (qb, .inl (cI, 60, .inl by_)), (qh, .inl (cZ, 1024, .inl (fun p => zI (h p)))), (qd, .inl (cZ, 1024, .inl (fun p => zI (k p))))] sz) s.heap H locs → W p l e { frames := 1, cells := 0, slots := 0, locals := 23 } s m ([.ref h0]).toArray below meth c H locs 0 0 (MQ below (va_Qi (fun (r : Int32) (u : Int32 × Nat × (Nat → Int32) × (Nat → Int32) × (Nat → Bool) × (Nat → Bool)) => rk_apM g t pp by_ h k r u) (fun u s9 => rk_at (dC, dI) [(cI, .int), (cZ, .boolean), (cJ, .long)] (va_A [(h0, .inr (2, [.int th, .int (nI g), .ref qt, .ref qn, .ref qp, .ref qb, .ref qf, .ref qh, .ref qd])), (qt, .inl (cI, 1024, .inl t)), (qn, .inl (cI, 1024, .inl n0)), (qp, .inl (cI, 60, .inl pl)), (qb, .inl (cI, 60, .inl by_)), (qh, .inl (cZ, 1024, .inl (fun p => zI (h p)))), (qd, .inl (cZ, 1024, .inl (fun p => zI (k p))))] sz) [(h0, .inr (2, [.int (u.1), .int (nI u.2.1), .ref qt, .ref qn, .ref qp, .ref qb, .ref qf, .ref qh, .ref qd])), (qt, .inl (cI, 1024, .inl u.2.2.1)), (qn, .inl (cI, 1024, .inl u.2.2.2.1)), (qp, .inl (cI, 60, .inl pl)), (qb, .inl (cI, 60, .inl by_)), (qh, .inl (cZ, 1024, .inl (fun p => zI (u.2.2.2.2.1 p)))), (qd, .inl (cZ, 1024, .inl (fun p => zI (u.2.2.2.2.2 p))))] s9) (va_A [(h0, .inr (2, [.int th, .int (nI g), .ref qt, .ref qn, .ref qp, .ref qb, .ref qf, .ref qh, .ref qd])), (qt, .inl (cI, 1024, .inl t)), (qn, .inl (cI, 1024, .inl n0)), (qp, .inl (cI, 60, .inl pl)), (qb, .inl (cI, 60, .inl by_)), (qh, .inl (cZ, 1024, .inl (fun p => zI (h p)))), (qd, .inl (cZ, 1024, .inl (fun p => zI (k p))))] sz)) ([.ref h0]).toArray s 0 0 (va_A [(h0, .inr (2, [.int th, .int (nI g), .ref qt, .ref qn, .ref qp, .ref qb, .ref qf, .ref qh, .ref qd])), (qt, .inl (cI, 1024, .inl t)), (qn, .inl (cI, 1024, .inl n0)), (qp, .inl (cI, 60, .inl pl)), (qb, .inl (cI, 60, .inl by_)), (qh, .inl (cZ, 1024, .inl (fun p => zI (h p)))), (qd, .inl (cZ, 1024, .inl (fun p => zI (k p))))] sz)) (F0 m 29 ls []) := by
          intro kf2
          induction kf2 with
          | zero => intro i hk2 hi nn hnn; exact absurd hk2 (by omega)
          | succ kf2 ih2 =>
            intro i hk2 hi nn hnn ls H locs hl hP hD hS
            refine lv_iload_n hx hb d_M_apply_29 rfl (lv_at hl 0 rfl) ?_
            refine lv_aload_n hx hb d_M_apply_30 rfl (lv_at hl 1 rfl) ?_
            refine va_get (D := (dC, dI)) (ci := 2) (v := .int (nI g)) (C := R_M) (T := F_M) (N := 9) hx hb htw u_M hown hK hP 0 rfl rfl 1 (by decide) (htw _ l_M_40) (fun _ h9 => h9) rfl d_M_apply_31 ?_
            refine lv_icmp_ge (tgt := 63) hx hb d_M_apply_34 (by decide) (fun hc2 => ?_) (fun hc2 => ?_)
            · have hc2 := (nI_leI (by omega) (by omega)).mp hc2
              rw [show i = g by omega] at hnn
              refine lv_aload_n hx hb d_M_apply_63 rfl (lv_at hl 1 rfl) ?_
              refine lv_iconst (v := nI 0) hx hb d_M_apply_64 (by decide) ?_
              refine va_put (D := (dC, dI)) (ci := 2) (v := .int (nI 0)) (ty := .int) (C := R_M) (T := F_M) (N := 9) hx hb htw u_M t_M t_M_ok n_M hown hK hP hD hS 0 rfl rfl 0 (by decide) (htw _ l_M_32) (fun _ h9 => h9) rfl (by decide +kernel) rfl rfl (Nat.le_of_ble_eq_true rfl) d_M_apply_65 (fun H locs hP hD hS => ?_)
              have hP : va_P (dC, dI) classes [(h0, .inr (2, [.int (nI 0), .int (nI g), .ref qt, .ref qn, .ref qp, .ref qb, .ref qf, .ref qh, .ref qd])), (qt, .inl (cI, 1024, .inl t)), (qn, .inl (cI, 1024, .inl nn)), (qp, .inl (cI, 60, .inl pl)), (qb, .inl (cI, 60, .inl by_)), (qh, .inl (cZ, 1024, .inl (fun p => zI (h p)))), (qd, .inl (cZ, 1024, .inl (fun p => zI (k p))))] H := hP
              have hD : va_D _ [(h0, .inr (2, [.int (nI 0), .int (nI g), .ref qt, .ref qn, .ref qp, .ref qb, .ref qf, .ref qh, .ref qd])), (qt, .inl (cI, 1024, .inl t)), (qn, .inl (cI, 1024, .inl nn)), (qp, .inl (cI, 60, .inl pl)), (qb, .inl (cI, 60, .inl by_)), (qh, .inl (cZ, 1024, .inl (fun p => zI (h p)))), (qd, .inl (cZ, 1024, .inl (fun p => zI (k p))))] := hD
              refine lv_iconst (v := nI 0) hx hb d_M_apply_68 (by decide) ?_
              refine lv_istore_n (lv' := [(1, .int (nI 0)), (0, .ref h0)]) hx hb d_M_apply_69 rfl hl (by decide) rfl (fun ls hl => ?_)
              have lp3 : ∀ (kf3 : Nat) (i : Nat), 1024 - i < kf3 → i ≤ 1024 → ∀ x3 : Int32, x3 = zI (rk_any (fun p => decide (nn p < 0)) i) → ∀ (ls : Array Slot) (H : Heap) (locs : List Loc), lv_has ls 4 [(1, .int (nI i)), (0, .ref h0)] → va_P (dC, dI) classes [(h0, .inr (2, [.int x3, .int (nI g), .ref qt, .ref qn, .ref qp, .ref qb, .ref qf, .ref qh, .ref qd])), (qt, .inl (cI, 1024, .inl t)), (qn, .inl (cI, 1024, .inl nn)), (qp, .inl (cI, 60, .inl pl)), (qb, .inl (cI, 60, .inl by_)), (qh, .inl (cZ, 1024, .inl (fun p => zI (h p)))), (qd, .inl (cZ, 1024, .inl (fun p => zI (k p))))] H → va_D (va_A [(h0, .inr (2, [.int th, .int (nI g), .ref qt, .ref qn, .ref qp, .ref qb, .ref qf, .ref qh, .ref qd])), (qt, .inl (cI, 1024, .inl t)), (qn, .inl (cI, 1024, .inl n0)), (qp, .inl (cI, 60, .inl pl)), (qb, .inl (cI, 60, .inl by_)), (qh, .inl (cZ, 1024, .inl (fun p => zI (h p)))), (qd, .inl (cZ, 1024, .inl (fun p => zI (k p))))] sz) [(h0, .inr (2, [.int x3, .int (nI g), .ref qt, .ref qn, .ref qp, .ref qb, .ref qf, .ref qh, .ref qd])), (qt, .inl (cI, 1024, .inl t)), (qn, .inl (cI, 1024, .inl nn)), (qp, .inl (cI, 60, .inl pl)), (qb, .inl (cI, 60, .inl by_)), (qh, .inl (cZ, 1024, .inl (fun p => zI (h p)))), (qd, .inl (cZ, 1024, .inl (fun p => zI (k p))))] → va_S (va_A [(h0, .inr (2, [.int th, .int (nI g), .ref qt, .ref qn, .ref qp, .ref qb, .ref qf, .ref qh, .ref qd])), (qt, .inl (cI, 1024, .inl t)), (qn, .inl (cI, 1024, .inl n0)), (qp, .inl (cI, 60, .inl pl)), (qb, .inl (cI, 60, .inl by_)), (qh, .inl (cZ, 1024, .inl (fun p => zI (h p)))), (qd, .inl (cZ, 1024, .inl (fun p => zI (k p))))] sz) s.heap H locs → W p l e { frames := 1, cells := 0, slots := 0, locals := 23 } s m ([.ref h0]).toArray below meth c H locs 0 0 (MQ below (va_Qi (fun (r : Int32) (u : Int32 × Nat × (Nat → Int32) × (Nat → Int32) × (Nat → Bool) × (Nat → Bool)) => rk_apM g t pp by_ h k r u) (fun u s9 => rk_at (dC, dI) [(cI, .int), (cZ, .boolean), (cJ, .long)] (va_A [(h0, .inr (2, [.int th, .int (nI g), .ref qt, .ref qn, .ref qp, .ref qb, .ref qf, .ref qh, .ref qd])), (qt, .inl (cI, 1024, .inl t)), (qn, .inl (cI, 1024, .inl n0)), (qp, .inl (cI, 60, .inl pl)), (qb, .inl (cI, 60, .inl by_)), (qh, .inl (cZ, 1024, .inl (fun p => zI (h p)))), (qd, .inl (cZ, 1024, .inl (fun p => zI (k p))))] sz) [(h0, .inr (2, [.int (u.1), .int (nI u.2.1), .ref qt, .ref qn, .ref qp, .ref qb, .ref qf, .ref qh, .ref qd])), (qt, .inl (cI, 1024, .inl u.2.2.1)), (qn, .inl (cI, 1024, .inl u.2.2.2.1)), (qp, .inl (cI, 60, .inl pl)), (qb, .inl (cI, 60, .inl by_)), (qh, .inl (cZ, 1024, .inl (fun p => zI (u.2.2.2.2.1 p)))), (qd, .inl (cZ, 1024, .inl (fun p => zI (u.2.2.2.2.2 p))))] s9) (va_A [(h0, .inr (2, [.int th, .int (nI g), .ref qt, .ref qn, .ref qp, .ref qb, .ref qf, .ref qh, .ref qd])), (qt, .inl (cI, 1024, .inl t)), (qn, .inl (cI, 1024, .inl n0)), (qp, .inl (cI, 60, .inl pl)), (qb, .inl (cI, 60, .inl by_)), (qh, .inl (cZ, 1024, .inl (fun p => zI (h p)))), (qd, .inl (cZ, 1024, .inl (fun p => zI (k p))))] sz)) ([.ref h0]).toArray s 0 0 (va_A [(h0, .inr (2, [.int th, .int (nI g), .ref qt, .ref qn, .ref qp, .ref qb, .ref qf, .ref qh, .ref qd])), (qt, .inl (cI, 1024, .inl t)), (qn, .inl (cI, 1024, .inl n0)), (qp, .inl (cI, 60, .inl pl)), (qb, .inl (cI, 60, .inl by_)), (qh, .inl (cZ, 1024, .inl (fun p => zI (h p)))), (qd, .inl (cZ, 1024, .inl (fun p => zI (k p))))] sz)) (F0 m 70 ls []) := by
                intro kf3
                induction kf3 with
                | zero => intro i hk3 hi x3 hx3; exact absurd hk3 (by omega)
                | succ kf3 ih3 =>
                  intro i hk3 hi x3 hx3 ls H locs hl hP hD hS
                  refine lv_iload_n hx hb d_M_apply_70 rfl (lv_at hl 0 rfl) ?_
                  refine lv_sipush (v := nI 1024) hx hb d_M_apply_71 (by decide) ?_
                  refine lv_icmp_ge (tgt := 97) hx hb d_M_apply_74 (by decide) (fun hc3 => ?_) (fun hc3 => ?_)
                  · have hc3 := (nI_leI (by omega) (by omega)).mp hc3
                    refine lv_aload_n hx hb d_M_apply_97 rfl (lv_at hl 1 rfl) ?_
                    refine va_get (D := (dC, dI)) (ci := 2) (v := .int x3) (C := R_M) (T := F_M) (N := 9) hx hb htw u_M hown hK hP 0 rfl rfl 0 (by decide) (htw _ l_M_32) (fun _ h9 => h9) rfl d_M_apply_98 ?_
                    rw [show i = 1024 by omega] at hx3
                    refine lv_if_le (tgt := 106) hx hb d_M_apply_101 (by decide) (fun hd3 => ?_) (fun hd3 => ?_)
                    · rw [hx3, zI_le] at hd3
                      have hok : ∀ p, p < 1024 → ¬ nn p < 0 := fun p hp9 => of_decide_eq_false (rk_any_no.mp hd3 p hp9)
                      rw [hd3] at hx3
                      subst hx3
                      have hP : va_P (dC, dI) classes [(h0, .inr (2, [.int (zI false), .int (nI g), .ref qt, .ref qn, .ref qp, .ref qb, .ref qf, .ref qh, .ref qd])), (qt, .inl (cI, 1024, .inl t)), (qn, .inl (cI, 1024, .inl nn)), (qp, .inl (cI, 60, .inl pl)), (qb, .inl (cI, 60, .inl by_)), (qh, .inl (cZ, 1024, .inl (fun p => zI (h p)))), (qd, .inl (cZ, 1024, .inl (fun p => zI (k p))))] H := hP
                      have hP : va_P (dC, dI) classes [(h0, .inr (2, [.int (nI 0), .int (nI g), .ref qt, .ref qn, .ref qp, .ref qb, .ref qf, .ref qh, .ref qd])), (qt, .inl (cI, 1024, .inl t)), (qn, .inl (cI, 1024, .inl nn)), (qp, .inl (cI, 60, .inl pl)), (qb, .inl (cI, 60, .inl by_)), (qh, .inl (cZ, 1024, .inl (fun p => zI (h p)))), (qd, .inl (cZ, 1024, .inl (fun p => zI (k p))))] H := hP
                      have hD : va_D _ [(h0, .inr (2, [.int (nI 0), .int (nI g), .ref qt, .ref qn, .ref qp, .ref qb, .ref qf, .ref qh, .ref qd])), (qt, .inl (cI, 1024, .inl t)), (qn, .inl (cI, 1024, .inl nn)), (qp, .inl (cI, 60, .inl pl)), (qb, .inl (cI, 60, .inl by_)), (qh, .inl (cZ, 1024, .inl (fun p => zI (h p)))), (qd, .inl (cZ, 1024, .inl (fun p => zI (k p))))] := hD
                      refine lv_aload_n hx hb d_M_apply_106 rfl (lv_at hl 1 rfl) ?_
                      refine lv_iconst (v := nI 0) hx hb d_M_apply_107 (by decide) ?_
                      refine va_put (D := (dC, dI)) (ci := 2) (v := .int (nI 0)) (ty := .int) (C := R_M) (T := F_M) (N := 9) hx hb htw u_M t_M t_M_ok n_M hown hK hP hD hS 0 rfl rfl 1 (by decide) (htw _ l_M_40) (fun _ h9 => h9) rfl (by decide +kernel) rfl rfl (Nat.le_of_ble_eq_true rfl) d_M_apply_108 (fun H locs hP hD hS => ?_)
                      have hP : va_P (dC, dI) classes [(h0, .inr (2, [.int (nI 0), .int (nI 0), .ref qt, .ref qn, .ref qp, .ref qb, .ref qf, .ref qh, .ref qd])), (qt, .inl (cI, 1024, .inl t)), (qn, .inl (cI, 1024, .inl nn)), (qp, .inl (cI, 60, .inl pl)), (qb, .inl (cI, 60, .inl by_)), (qh, .inl (cZ, 1024, .inl (fun p => zI (h p)))), (qd, .inl (cZ, 1024, .inl (fun p => zI (k p))))] H := hP
                      have hD : va_D _ [(h0, .inr (2, [.int (nI 0), .int (nI 0), .ref qt, .ref qn, .ref qp, .ref qb, .ref qf, .ref qh, .ref qd])), (qt, .inl (cI, 1024, .inl t)), (qn, .inl (cI, 1024, .inl nn)), (qp, .inl (cI, 60, .inl pl)), (qb, .inl (cI, 60, .inl by_)), (qh, .inl (cZ, 1024, .inl (fun p => zI (h p)))), (qd, .inl (cZ, 1024, .inl (fun p => zI (k p))))] := hD
                      refine lv_iconst (v := nI 0) hx hb d_M_apply_111 (by decide) ?_
                      refine lv_istore_n (lv' := [(1, .int (nI 0)), (0, .ref h0)]) hx hb d_M_apply_112 rfl hl (by decide) rfl (fun ls hl => ?_)
                      have lp4 : ∀ (kf4 : Nat) (i : Nat), 1024 - i < kf4 → i ≤ 1024 → ∀ t2 : Nat → Int32, (∀ p, p < 1024 → t2 p = if p < i then nn p else t p) → ∀ h2 : Nat → Bool, (∀ p, p < 1024 → h2 p = if p < i then decide (0 < nn p) else h p) → ∀ kk : Nat → Bool, (∀ p, p < 1024 → kk p = if p < i then h p else k p) → ∀ (ls : Array Slot) (H : Heap) (locs : List Loc), lv_has ls 4 [(1, .int (nI i)), (0, .ref h0)] → va_P (dC, dI) classes [(h0, .inr (2, [.int (nI 0), .int (nI 0), .ref qt, .ref qn, .ref qp, .ref qb, .ref qf, .ref qh, .ref qd])), (qt, .inl (cI, 1024, .inl t2)), (qn, .inl (cI, 1024, .inl nn)), (qp, .inl (cI, 60, .inl pl)), (qb, .inl (cI, 60, .inl by_)), (qh, .inl (cZ, 1024, .inl (fun p => zI (h2 p)))), (qd, .inl (cZ, 1024, .inl (fun p => zI (kk p))))] H → va_D (va_A [(h0, .inr (2, [.int th, .int (nI g), .ref qt, .ref qn, .ref qp, .ref qb, .ref qf, .ref qh, .ref qd])), (qt, .inl (cI, 1024, .inl t)), (qn, .inl (cI, 1024, .inl n0)), (qp, .inl (cI, 60, .inl pl)), (qb, .inl (cI, 60, .inl by_)), (qh, .inl (cZ, 1024, .inl (fun p => zI (h p)))), (qd, .inl (cZ, 1024, .inl (fun p => zI (k p))))] sz) [(h0, .inr (2, [.int (nI 0), .int (nI 0), .ref qt, .ref qn, .ref qp, .ref qb, .ref qf, .ref qh, .ref qd])), (qt, .inl (cI, 1024, .inl t2)), (qn, .inl (cI, 1024, .inl nn)), (qp, .inl (cI, 60, .inl pl)), (qb, .inl (cI, 60, .inl by_)), (qh, .inl (cZ, 1024, .inl (fun p => zI (h2 p)))), (qd, .inl (cZ, 1024, .inl (fun p => zI (kk p))))] → va_S (va_A [(h0, .inr (2, [.int th, .int (nI g), .ref qt, .ref qn, .ref qp, .ref qb, .ref qf, .ref qh, .ref qd])), (qt, .inl (cI, 1024, .inl t)), (qn, .inl (cI, 1024, .inl n0)), (qp, .inl (cI, 60, .inl pl)), (qb, .inl (cI, 60, .inl by_)), (qh, .inl (cZ, 1024, .inl (fun p => zI (h p)))), (qd, .inl (cZ, 1024, .inl (fun p => zI (k p))))] sz) s.heap H locs → W p l e { frames := 1, cells := 0, slots := 0, locals := 23 } s m ([.ref h0]).toArray below meth c H locs 0 0 (MQ below (va_Qi (fun (r : Int32) (u : Int32 × Nat × (Nat → Int32) × (Nat → Int32) × (Nat → Bool) × (Nat → Bool)) => rk_apM g t pp by_ h k r u) (fun u s9 => rk_at (dC, dI) [(cI, .int), (cZ, .boolean), (cJ, .long)] (va_A [(h0, .inr (2, [.int th, .int (nI g), .ref qt, .ref qn, .ref qp, .ref qb, .ref qf, .ref qh, .ref qd])), (qt, .inl (cI, 1024, .inl t)), (qn, .inl (cI, 1024, .inl n0)), (qp, .inl (cI, 60, .inl pl)), (qb, .inl (cI, 60, .inl by_)), (qh, .inl (cZ, 1024, .inl (fun p => zI (h p)))), (qd, .inl (cZ, 1024, .inl (fun p => zI (k p))))] sz) [(h0, .inr (2, [.int (u.1), .int (nI u.2.1), .ref qt, .ref qn, .ref qp, .ref qb, .ref qf, .ref qh, .ref qd])), (qt, .inl (cI, 1024, .inl u.2.2.1)), (qn, .inl (cI, 1024, .inl u.2.2.2.1)), (qp, .inl (cI, 60, .inl pl)), (qb, .inl (cI, 60, .inl by_)), (qh, .inl (cZ, 1024, .inl (fun p => zI (u.2.2.2.2.1 p)))), (qd, .inl (cZ, 1024, .inl (fun p => zI (u.2.2.2.2.2 p))))] s9) (va_A [(h0, .inr (2, [.int th, .int (nI g), .ref qt, .ref qn, .ref qp, .ref qb, .ref qf, .ref qh, .ref qd])), (qt, .inl (cI, 1024, .inl t)), (qn, .inl (cI, 1024, .inl n0)), (qp, .inl (cI, 60, .inl pl)), (qb, .inl (cI, 60, .inl by_)), (qh, .inl (cZ, 1024, .inl (fun p => zI (h p)))), (qd, .inl (cZ, 1024, .inl (fun p => zI (k p))))] sz)) ([.ref h0]).toArray s 0 0 (va_A [(h0, .inr (2, [.int th, .int (nI g), .ref qt, .ref qn, .ref qp, .ref qb, .ref qf, .ref qh, .ref qd])), (qt, .inl (cI, 1024, .inl t)), (qn, .inl (cI, 1024, .inl n0)), (qp, .inl (cI, 60, .inl pl)), (qb, .inl (cI, 60, .inl by_)), (qh, .inl (cZ, 1024, .inl (fun p => zI (h p)))), (qd, .inl (cZ, 1024, .inl (fun p => zI (k p))))] sz)) (F0 m 113 ls []) := by
                        intro kf4
                        induction kf4 with
                        | zero => intro i hk4 hi t2 ht2 h2 hh2 kk hkk; exact absurd hk4 (by omega)
                        | succ kf4 ih4 =>
                          intro i hk4 hi t2 ht2 h2 hh2 kk hkk ls H locs hl hP hD hS
                          refine lv_iload_n hx hb d_M_apply_113 rfl (lv_at hl 0 rfl) ?_
                          refine lv_sipush (v := nI 1024) hx hb d_M_apply_114 (by decide) ?_
                          refine lv_icmp_ge (tgt := 170) hx hb d_M_apply_117 (by decide) (fun hc4 => ?_) (fun hc4 => ?_)
                          · have hc4 := (nI_leI (by omega) (by omega)).mp hc4
                            have ht2 : ∀ p, p < 1024 → t2 p = nn p := fun p hp9 => by rw [ht2 p hp9, if_pos (by omega)]
                            have hh2 : ∀ p, p < 1024 → h2 p = decide (0 < nn p) := fun p hp9 => by rw [hh2 p hp9, if_pos (by omega)]
                            have hkk : ∀ p, p < 1024 → kk p = h p := fun p hp9 => by rw [hkk p hp9, if_pos (by omega)]
                            refine lv_iconst (v := nI 0) hx hb d_M_apply_170 (by decide) ?_
                            refine lv_istore_n (lv' := [(1, .int (nI 0)), (0, .ref h0)]) hx hb d_M_apply_171 rfl hl (by decide) rfl (fun ls hl => ?_)
                            have lpv : ∀ (kfv : Nat) (v : Nat), 32 - v < kfv → v ≤ 32 → ∀ hh : Nat → Bool, (∀ p, p < 1024 → hh p = rk_jv v (fun p => decide (0 < nn p)) p) → ∀ (ls : Array Slot) (H : Heap) (locs : List Loc), lv_has ls 4 [(1, .int (nI v)), (0, .ref h0)] → va_P (dC, dI) classes [(h0, .inr (2, [.int (nI 0), .int (nI 0), .ref qt, .ref qn, .ref qp, .ref qb, .ref qf, .ref qh, .ref qd])), (qt, .inl (cI, 1024, .inl t2)), (qn, .inl (cI, 1024, .inl nn)), (qp, .inl (cI, 60, .inl pl)), (qb, .inl (cI, 60, .inl by_)), (qh, .inl (cZ, 1024, .inl (fun p => zI (hh p)))), (qd, .inl (cZ, 1024, .inl (fun p => zI (kk p))))] H → va_D (va_A [(h0, .inr (2, [.int th, .int (nI g), .ref qt, .ref qn, .ref qp, .ref qb, .ref qf, .ref qh, .ref qd])), (qt, .inl (cI, 1024, .inl t)), (qn, .inl (cI, 1024, .inl n0)), (qp, .inl (cI, 60, .inl pl)), (qb, .inl (cI, 60, .inl by_)), (qh, .inl (cZ, 1024, .inl (fun p => zI (h p)))), (qd, .inl (cZ, 1024, .inl (fun p => zI (k p))))] sz) [(h0, .inr (2, [.int (nI 0), .int (nI 0), .ref qt, .ref qn, .ref qp, .ref qb, .ref qf, .ref qh, .ref qd])), (qt, .inl (cI, 1024, .inl t2)), (qn, .inl (cI, 1024, .inl nn)), (qp, .inl (cI, 60, .inl pl)), (qb, .inl (cI, 60, .inl by_)), (qh, .inl (cZ, 1024, .inl (fun p => zI (hh p)))), (qd, .inl (cZ, 1024, .inl (fun p => zI (kk p))))] → va_S (va_A [(h0, .inr (2, [.int th, .int (nI g), .ref qt, .ref qn, .ref qp, .ref qb, .ref qf, .ref qh, .ref qd])), (qt, .inl (cI, 1024, .inl t)), (qn, .inl (cI, 1024, .inl n0)), (qp, .inl (cI, 60, .inl pl)), (qb, .inl (cI, 60, .inl by_)), (qh, .inl (cZ, 1024, .inl (fun p => zI (h p)))), (qd, .inl (cZ, 1024, .inl (fun p => zI (k p))))] sz) s.heap H locs → W p l e { frames := 1, cells := 0, slots := 0, locals := 23 } s m ([.ref h0]).toArray below meth c H locs 0 0 (MQ below (va_Qi (fun (r : Int32) (u : Int32 × Nat × (Nat → Int32) × (Nat → Int32) × (Nat → Bool) × (Nat → Bool)) => rk_apM g t pp by_ h k r u) (fun u s9 => rk_at (dC, dI) [(cI, .int), (cZ, .boolean), (cJ, .long)] (va_A [(h0, .inr (2, [.int th, .int (nI g), .ref qt, .ref qn, .ref qp, .ref qb, .ref qf, .ref qh, .ref qd])), (qt, .inl (cI, 1024, .inl t)), (qn, .inl (cI, 1024, .inl n0)), (qp, .inl (cI, 60, .inl pl)), (qb, .inl (cI, 60, .inl by_)), (qh, .inl (cZ, 1024, .inl (fun p => zI (h p)))), (qd, .inl (cZ, 1024, .inl (fun p => zI (k p))))] sz) [(h0, .inr (2, [.int (u.1), .int (nI u.2.1), .ref qt, .ref qn, .ref qp, .ref qb, .ref qf, .ref qh, .ref qd])), (qt, .inl (cI, 1024, .inl u.2.2.1)), (qn, .inl (cI, 1024, .inl u.2.2.2.1)), (qp, .inl (cI, 60, .inl pl)), (qb, .inl (cI, 60, .inl by_)), (qh, .inl (cZ, 1024, .inl (fun p => zI (u.2.2.2.2.1 p)))), (qd, .inl (cZ, 1024, .inl (fun p => zI (u.2.2.2.2.2 p))))] s9) (va_A [(h0, .inr (2, [.int th, .int (nI g), .ref qt, .ref qn, .ref qp, .ref qb, .ref qf, .ref qh, .ref qd])), (qt, .inl (cI, 1024, .inl t)), (qn, .inl (cI, 1024, .inl n0)), (qp, .inl (cI, 60, .inl pl)), (qb, .inl (cI, 60, .inl by_)), (qh, .inl (cZ, 1024, .inl (fun p => zI (h p)))), (qd, .inl (cZ, 1024, .inl (fun p => zI (k p))))] sz)) ([.ref h0]).toArray s 0 0 (va_A [(h0, .inr (2, [.int th, .int (nI g), .ref qt, .ref qn, .ref qp, .ref qb, .ref qf, .ref qh, .ref qd])), (qt, .inl (cI, 1024, .inl t)), (qn, .inl (cI, 1024, .inl n0)), (qp, .inl (cI, 60, .inl pl)), (qb, .inl (cI, 60, .inl by_)), (qh, .inl (cZ, 1024, .inl (fun p => zI (h p)))), (qd, .inl (cZ, 1024, .inl (fun p => zI (k p))))] sz)) (F0 m 172 ls []) := by
                              intro kfv
                              induction kfv with
                              | zero => intro v hkv hvv hh hhh; exact absurd hkv (by omega)
                              | succ kfv ihv =>
                                intro v hkv hvv hh hhh ls H locs hl hP hD hS
                                refine lv_iload_n hx hb d_M_apply_172 rfl (lv_at hl 0 rfl) ?_
                                refine lv_bipush (v := nI 32) hx hb d_M_apply_173 (by decide) ?_
                                refine lv_icmp_ge (tgt := 255) hx hb d_M_apply_175 (by decide) (fun hcv => ?_) (fun hcv => ?_)
                                · have hcv := (nI_leI (by omega) (by omega)).mp hcv
                                  refine lv_aload_n hx hb d_M_apply_255 rfl (lv_at hl 1 rfl) ?_
                                  refine lv_iconst (v := zI true) hx hb d_M_apply_256 (by decide) ?_
                                  refine rk_backi (wc := [(h0, .inr (2, [.int (nI 0), .int (nI 0), .ref qt, .ref qn, .ref qp, .ref qb, .ref qf, .ref qh, .ref qd])), (qh, .inl (cZ, 1024, .inl (fun p => zI (hh p)))), (qd, .inl (cZ, 1024, .inl (fun p => zI (kk p))))]) (wr := [(qt, .inl (cI, 1024, .inl t2)), (qn, .inl (cI, 1024, .inl nn)), (qp, .inl (cI, 60, .inl pl)), (qb, .inl (cI, 60, .inl by_))]) (va_runV (As := [.int (zI true)]) (rest := []) ⟨hx, hb, hml, hown, htw⟩ (c_M_many l dC dI cI cZ cJ _ h0 qt qn qp qb qf qh qd (nI 0) 0 hh kk true) (rk_cwV 1 htw gc_M_apply_257 (by decide +kernel) ⟨(Nat.le_of_ble_eq_true rfl), (Nat.le_of_ble_eq_true rfl)⟩) (⟨rk_blind, va_recv hK hP (ci := 2) rfl (q0 := 0) rfl, rk_give (rk_psub (isC := [0, 5, 6]) hP rfl) hK (hD.sub [0, 5, 6] rfl rfl)⟩) rfl rfl hl.1 rfl (lv_room (Nat.le_of_ble_eq_true rfl)) d_M_apply_257 ⟨(Nat.le_of_ble_eq_true rfl), (Nat.le_of_ble_eq_true rfl)⟩) hP hD hS hA [0, 5, 6] [1, 2, 3, 4] rfl rfl rfl (by decide) (fun x5 u5 H locs hp5 hP hD hS => ?_)
                                  subst hp5
                                  have hP : va_P (dC, dI) classes [(qt, .inl (cI, 1024, .inl t2)), (qn, .inl (cI, 1024, .inl nn)), (qp, .inl (cI, 60, .inl pl)), (qb, .inl (cI, 60, .inl by_)), (h0, .inr (2, [.int (nI 0), .int (nI 0), .ref qt, .ref qn, .ref qp, .ref qb, .ref qf, .ref qh, .ref qd])), (qh, .inl (cZ, 1024, .inl (fun p => zI (hh p)))), (qd, .inl (cZ, 1024, .inl (fun p => zI (kk p))))] H := hP
                                  have hD : va_D _ [(qt, .inl (cI, 1024, .inl t2)), (qn, .inl (cI, 1024, .inl nn)), (qp, .inl (cI, 60, .inl pl)), (qb, .inl (cI, 60, .inl by_)), (h0, .inr (2, [.int (nI 0), .int (nI 0), .ref qt, .ref qn, .ref qp, .ref qb, .ref qf, .ref qh, .ref qd])), (qh, .inl (cZ, 1024, .inl (fun p => zI (hh p)))), (qd, .inl (cZ, 1024, .inl (fun p => zI (kk p))))] := hD
                                  have hP := hP.sub (ws' := [(h0, .inr (2, [.int (nI 0), .int (nI 0), .ref qt, .ref qn, .ref qp, .ref qb, .ref qf, .ref qh, .ref qd])), (qt, .inl (cI, 1024, .inl t2)), (qn, .inl (cI, 1024, .inl nn)), (qp, .inl (cI, 60, .inl pl)), (qb, .inl (cI, 60, .inl by_)), (qh, .inl (cZ, 1024, .inl (fun p => zI (hh p)))), (qd, .inl (cZ, 1024, .inl (fun p => zI (kk p))))]) [4, 0, 1, 2, 3, 5, 6] rfl
                                  have hD := hD.sub (ws' := [(h0, .inr (2, [.int (nI 0), .int (nI 0), .ref qt, .ref qn, .ref qp, .ref qb, .ref qf, .ref qh, .ref qd])), (qt, .inl (cI, 1024, .inl t2)), (qn, .inl (cI, 1024, .inl nn)), (qp, .inl (cI, 60, .inl pl)), (qb, .inl (cI, 60, .inl by_)), (qh, .inl (cZ, 1024, .inl (fun p => zI (hh p)))), (qd, .inl (cZ, 1024, .inl (fun p => zI (kk p))))]) [4, 0, 1, 2, 3, 5, 6] rfl rfl
                                  refine lv_aload_n hx hb d_M_apply_260 rfl (lv_at hl 1 rfl) ?_
                                  refine lv_iconst (v := zI false) hx hb d_M_apply_261 (by decide) ?_
                                  refine rk_backi (wc := [(h0, .inr (2, [.int (nI 0), .int (nI 0), .ref qt, .ref qn, .ref qp, .ref qb, .ref qf, .ref qh, .ref qd])), (qh, .inl (cZ, 1024, .inl (fun p => zI (hh p)))), (qd, .inl (cZ, 1024, .inl (fun p => zI (kk p))))]) (wr := [(qt, .inl (cI, 1024, .inl t2)), (qn, .inl (cI, 1024, .inl nn)), (qp, .inl (cI, 60, .inl pl)), (qb, .inl (cI, 60, .inl by_))]) (va_runV (As := [.int (zI false)]) (rest := [.int (nI (rk_c (rk_came hh kk true) 1024))]) ⟨hx, hb, hml, hown, htw⟩ (c_M_many l dC dI cI cZ cJ _ h0 qt qn qp qb qf qh qd (nI 0) 0 hh kk false) (rk_cwV 1 htw gc_M_apply_262 (by decide +kernel) ⟨(Nat.le_of_ble_eq_true rfl), (Nat.le_of_ble_eq_true rfl)⟩) (⟨rk_blind, va_recv hK hP (ci := 2) rfl (q0 := 0) rfl, rk_give (rk_psub (isC := [0, 5, 6]) hP rfl) hK (hD.sub [0, 5, 6] rfl rfl)⟩) rfl rfl hl.1 rfl (lv_room (Nat.le_of_ble_eq_true rfl)) d_M_apply_262 ⟨(Nat.le_of_ble_eq_true rfl), (Nat.le_of_ble_eq_true rfl)⟩) hP hD hS hA [0, 5, 6] [1, 2, 3, 4] rfl rfl rfl (by decide) (fun x6 u6 H locs hp6 hP hD hS => ?_)
                                  subst hp6
                                  have hP : va_P (dC, dI) classes [(qt, .inl (cI, 1024, .inl t2)), (qn, .inl (cI, 1024, .inl nn)), (qp, .inl (cI, 60, .inl pl)), (qb, .inl (cI, 60, .inl by_)), (h0, .inr (2, [.int (nI 0), .int (nI 0), .ref qt, .ref qn, .ref qp, .ref qb, .ref qf, .ref qh, .ref qd])), (qh, .inl (cZ, 1024, .inl (fun p => zI (hh p)))), (qd, .inl (cZ, 1024, .inl (fun p => zI (kk p))))] H := hP
                                  have hD : va_D _ [(qt, .inl (cI, 1024, .inl t2)), (qn, .inl (cI, 1024, .inl nn)), (qp, .inl (cI, 60, .inl pl)), (qb, .inl (cI, 60, .inl by_)), (h0, .inr (2, [.int (nI 0), .int (nI 0), .ref qt, .ref qn, .ref qp, .ref qb, .ref qf, .ref qh, .ref qd])), (qh, .inl (cZ, 1024, .inl (fun p => zI (hh p)))), (qd, .inl (cZ, 1024, .inl (fun p => zI (kk p))))] := hD
                                  have hP := hP.sub (ws' := [(h0, .inr (2, [.int (nI 0), .int (nI 0), .ref qt, .ref qn, .ref qp, .ref qb, .ref qf, .ref qh, .ref qd])), (qt, .inl (cI, 1024, .inl t2)), (qn, .inl (cI, 1024, .inl nn)), (qp, .inl (cI, 60, .inl pl)), (qb, .inl (cI, 60, .inl by_)), (qh, .inl (cZ, 1024, .inl (fun p => zI (hh p)))), (qd, .inl (cZ, 1024, .inl (fun p => zI (kk p))))]) [4, 0, 1, 2, 3, 5, 6] rfl
                                  have hD := hD.sub (ws' := [(h0, .inr (2, [.int (nI 0), .int (nI 0), .ref qt, .ref qn, .ref qp, .ref qb, .ref qf, .ref qh, .ref qd])), (qt, .inl (cI, 1024, .inl t2)), (qn, .inl (cI, 1024, .inl nn)), (qp, .inl (cI, 60, .inl pl)), (qb, .inl (cI, 60, .inl by_)), (qh, .inl (cZ, 1024, .inl (fun p => zI (hh p)))), (qd, .inl (cZ, 1024, .inl (fun p => zI (kk p))))]) [4, 0, 1, 2, 3, 5, 6] rfl rfl
                                  refine lv_iadd hx hb d_M_apply_265 ?_
                                  refine rk_top (y := nI (rk_c (rk_came hh kk true) 1024 + (rk_c (rk_came hh kk false) 1024))) (nI_add (rk_c (rk_came hh kk true) 1024) (rk_c (rk_came hh kk false) 1024)) ?_
                                  exact rk_iret ((nI 0, 0, t2, nn, hh, kk)) hx hb hr hlocks (Or.inr ⟨fun p hp9 => by rw [← hnn p hp9]; exact hok p hp9, rfl, rfl, fun p hp9 => (ht2 p hp9).trans (hnn p hp9), fun p hp9 => (hhh p hp9).trans (by rw [show v = 32 by omega]; exact rk_jv_congr (fun q hq9 => by show decide (0 < nn q) = decide (0 < t2 q); rw [ht2 q hq9]) p hp9), hkk, (nI_add _ _).symm⟩) rfl hP hK hD hS d_M_apply_266
                                · have hcv := rk_gt (by omega) (by omega) hcv
                                  refine lv_iconst (v := nI 0) hx hb d_M_apply_178 (by decide) ?_
                                  refine lv_istore_n (lv' := [(2, .int (nI 0)), (1, .int (nI v)), (0, .ref h0)]) hx hb d_M_apply_179 rfl hl (by decide) rfl (fun ls hl => ?_)
                                  have lpa : ∀ (kfa : Nat) (a : Nat), 32 - a < kfa → a ≤ 32 → ∀ ha : Nat → Bool, (∀ p, p < 1024 → ha p = rk_ja v a (rk_jv v (fun p => decide (0 < nn p))) p) → ∀ (ls : Array Slot) (H : Heap) (locs : List Loc), lv_has ls 4 [(2, .int (nI a)), (1, .int (nI v)), (0, .ref h0)] → va_P (dC, dI) classes [(h0, .inr (2, [.int (nI 0), .int (nI 0), .ref qt, .ref qn, .ref qp, .ref qb, .ref qf, .ref qh, .ref qd])), (qt, .inl (cI, 1024, .inl t2)), (qn, .inl (cI, 1024, .inl nn)), (qp, .inl (cI, 60, .inl pl)), (qb, .inl (cI, 60, .inl by_)), (qh, .inl (cZ, 1024, .inl (fun p => zI (ha p)))), (qd, .inl (cZ, 1024, .inl (fun p => zI (kk p))))] H → va_D (va_A [(h0, .inr (2, [.int th, .int (nI g), .ref qt, .ref qn, .ref qp, .ref qb, .ref qf, .ref qh, .ref qd])), (qt, .inl (cI, 1024, .inl t)), (qn, .inl (cI, 1024, .inl n0)), (qp, .inl (cI, 60, .inl pl)), (qb, .inl (cI, 60, .inl by_)), (qh, .inl (cZ, 1024, .inl (fun p => zI (h p)))), (qd, .inl (cZ, 1024, .inl (fun p => zI (k p))))] sz) [(h0, .inr (2, [.int (nI 0), .int (nI 0), .ref qt, .ref qn, .ref qp, .ref qb, .ref qf, .ref qh, .ref qd])), (qt, .inl (cI, 1024, .inl t2)), (qn, .inl (cI, 1024, .inl nn)), (qp, .inl (cI, 60, .inl pl)), (qb, .inl (cI, 60, .inl by_)), (qh, .inl (cZ, 1024, .inl (fun p => zI (ha p)))), (qd, .inl (cZ, 1024, .inl (fun p => zI (kk p))))] → va_S (va_A [(h0, .inr (2, [.int th, .int (nI g), .ref qt, .ref qn, .ref qp, .ref qb, .ref qf, .ref qh, .ref qd])), (qt, .inl (cI, 1024, .inl t)), (qn, .inl (cI, 1024, .inl n0)), (qp, .inl (cI, 60, .inl pl)), (qb, .inl (cI, 60, .inl by_)), (qh, .inl (cZ, 1024, .inl (fun p => zI (h p)))), (qd, .inl (cZ, 1024, .inl (fun p => zI (k p))))] sz) s.heap H locs → W p l e { frames := 1, cells := 0, slots := 0, locals := 23 } s m ([.ref h0]).toArray below meth c H locs 0 0 (MQ below (va_Qi (fun (r : Int32) (u : Int32 × Nat × (Nat → Int32) × (Nat → Int32) × (Nat → Bool) × (Nat → Bool)) => rk_apM g t pp by_ h k r u) (fun u s9 => rk_at (dC, dI) [(cI, .int), (cZ, .boolean), (cJ, .long)] (va_A [(h0, .inr (2, [.int th, .int (nI g), .ref qt, .ref qn, .ref qp, .ref qb, .ref qf, .ref qh, .ref qd])), (qt, .inl (cI, 1024, .inl t)), (qn, .inl (cI, 1024, .inl n0)), (qp, .inl (cI, 60, .inl pl)), (qb, .inl (cI, 60, .inl by_)), (qh, .inl (cZ, 1024, .inl (fun p => zI (h p)))), (qd, .inl (cZ, 1024, .inl (fun p => zI (k p))))] sz) [(h0, .inr (2, [.int (u.1), .int (nI u.2.1), .ref qt, .ref qn, .ref qp, .ref qb, .ref qf, .ref qh, .ref qd])), (qt, .inl (cI, 1024, .inl u.2.2.1)), (qn, .inl (cI, 1024, .inl u.2.2.2.1)), (qp, .inl (cI, 60, .inl pl)), (qb, .inl (cI, 60, .inl by_)), (qh, .inl (cZ, 1024, .inl (fun p => zI (u.2.2.2.2.1 p)))), (qd, .inl (cZ, 1024, .inl (fun p => zI (u.2.2.2.2.2 p))))] s9) (va_A [(h0, .inr (2, [.int th, .int (nI g), .ref qt, .ref qn, .ref qp, .ref qb, .ref qf, .ref qh, .ref qd])), (qt, .inl (cI, 1024, .inl t)), (qn, .inl (cI, 1024, .inl n0)), (qp, .inl (cI, 60, .inl pl)), (qb, .inl (cI, 60, .inl by_)), (qh, .inl (cZ, 1024, .inl (fun p => zI (h p)))), (qd, .inl (cZ, 1024, .inl (fun p => zI (k p))))] sz)) ([.ref h0]).toArray s 0 0 (va_A [(h0, .inr (2, [.int th, .int (nI g), .ref qt, .ref qn, .ref qp, .ref qb, .ref qf, .ref qh, .ref qd])), (qt, .inl (cI, 1024, .inl t)), (qn, .inl (cI, 1024, .inl n0)), (qp, .inl (cI, 60, .inl pl)), (qb, .inl (cI, 60, .inl by_)), (qh, .inl (cZ, 1024, .inl (fun p => zI (h p)))), (qd, .inl (cZ, 1024, .inl (fun p => zI (k p))))] sz)) (F0 m 180 ls []) := by
                                    intro kfa
                                    induction kfa with
                                    | zero => intro a hka haa ha hha; exact absurd hka (by omega)
                                    | succ kfa iha =>
                                      intro a hka haa ha hha ls H locs hl hP hD hS
                                      refine lv_iload_n hx hb d_M_apply_180 rfl (lv_at hl 0 rfl) ?_
                                      refine lv_bipush (v := nI 32) hx hb d_M_apply_181 (by decide) ?_
                                      refine lv_icmp_ge (tgt := 249) hx hb d_M_apply_183 (by decide) (fun hca => ?_) (fun hca => ?_)
                                      · have hca := (nI_leI (by omega) (by omega)).mp hca
                                        have hl := lv_sub (l' := [(1, .int (nI v)), (0, .ref h0)]) hl [1, 2] rfl
                                        refine lv_iinc (k := 0) (v := nI (v + 1)) (lv' := [(1, .int (nI (v + 1))), (0, .ref h0)]) hx hb d_M_apply_249 hl rfl (nI_1 v) (by decide) rfl (fun ls hl => ?_)
                                        refine lv_goto (tgt := 172) hx hb d_M_apply_252 (by decide) ?_
                                        exact ihv (v + 1) (by omega) (by omega) ha (fun p hp9 => by rw [hha p hp9, show a = 32 by omega]; rfl) ls H locs hl hP hD hS
                                      · have hca := rk_gt (by omega) (by omega) hca
                                        refine lv_aload_n hx hb d_M_apply_186 rfl (lv_at hl 2 rfl) ?_
                                        refine va_get (D := (dC, dI)) (ci := 2) (v := .ref qh) (C := R_M) (T := F_M) (N := 9) hx hb htw u_M hown hK hP 0 rfl rfl 7 (by decide) (htw _ l_M_25) (fun _ h9 => h9) rfl d_M_apply_187 ?_
                                        refine lv_bipush (v := nI 32) hx hb d_M_apply_190 (by decide) ?_
                                        refine lv_iload_n hx hb d_M_apply_192 rfl (lv_at hl 0 rfl) ?_
                                        refine lv_imul hx hb d_M_apply_193 ?_
                                        refine rk_top (y := nI (32 * a)) (pk_mul 32 a) ?_
                                        refine lv_iload_n hx hb d_M_apply_194 rfl (lv_at hl 1 rfl) ?_
                                        refine lv_iadd hx hb d_M_apply_195 ?_
                                        refine rk_top (y := nI (32 * a + v)) (nI_add (32 * a) v) ?_
                                        refine va_zald hx hb hK hP 5 1 rfl rfl (vp_in_nI (n := 32 * a + v) (show 32 * a + v < 1024 by omega) (by decide)) d_M_apply_196 ?_
                                        refine rk_top (y := zI (ha (32 * a + v))) (congrArg (fun p => zI (ha p)) (nI_clamp (show 32 * a + v < 2 ^ 31 by omega))) ?_
                                        have hav := hha (32 * a + v) (by omega)
                                        refine lv_if_ne (tgt := 203) hx hb d_M_apply_197 (by decide) (fun hcb => ?_) (fun hcb => ?_)
                                        · have hcb := zI_n.mp hcb
                                          rw [hav] at hcb
                                          refine lv_iconst (v := nI 0) hx hb d_M_apply_203 (by decide) ?_
                                          refine lv_istore_n (lv' := [(3, .int (nI 0)), (2, .int (nI a)), (1, .int (nI v)), (0, .ref h0)]) hx hb d_M_apply_204 rfl hl (by decide) rfl (fun ls hl => ?_)
                                          have lpb : ∀ (kfb : Nat) (b : Nat), 32 - b < kfb → b ≤ 32 → ∀ hb_ : Nat → Bool, (∀ p, p < 1024 → hb_ p = rk_jb v a b (rk_ja v a (rk_jv v (fun p => decide (0 < nn p)))) p) → ∀ (ls : Array Slot) (H : Heap) (locs : List Loc), lv_has ls 4 [(3, .int (nI b)), (2, .int (nI a)), (1, .int (nI v)), (0, .ref h0)] → va_P (dC, dI) classes [(h0, .inr (2, [.int (nI 0), .int (nI 0), .ref qt, .ref qn, .ref qp, .ref qb, .ref qf, .ref qh, .ref qd])), (qt, .inl (cI, 1024, .inl t2)), (qn, .inl (cI, 1024, .inl nn)), (qp, .inl (cI, 60, .inl pl)), (qb, .inl (cI, 60, .inl by_)), (qh, .inl (cZ, 1024, .inl (fun p => zI (hb_ p)))), (qd, .inl (cZ, 1024, .inl (fun p => zI (kk p))))] H → va_D (va_A [(h0, .inr (2, [.int th, .int (nI g), .ref qt, .ref qn, .ref qp, .ref qb, .ref qf, .ref qh, .ref qd])), (qt, .inl (cI, 1024, .inl t)), (qn, .inl (cI, 1024, .inl n0)), (qp, .inl (cI, 60, .inl pl)), (qb, .inl (cI, 60, .inl by_)), (qh, .inl (cZ, 1024, .inl (fun p => zI (h p)))), (qd, .inl (cZ, 1024, .inl (fun p => zI (k p))))] sz) [(h0, .inr (2, [.int (nI 0), .int (nI 0), .ref qt, .ref qn, .ref qp, .ref qb, .ref qf, .ref qh, .ref qd])), (qt, .inl (cI, 1024, .inl t2)), (qn, .inl (cI, 1024, .inl nn)), (qp, .inl (cI, 60, .inl pl)), (qb, .inl (cI, 60, .inl by_)), (qh, .inl (cZ, 1024, .inl (fun p => zI (hb_ p)))), (qd, .inl (cZ, 1024, .inl (fun p => zI (kk p))))] → va_S (va_A [(h0, .inr (2, [.int th, .int (nI g), .ref qt, .ref qn, .ref qp, .ref qb, .ref qf, .ref qh, .ref qd])), (qt, .inl (cI, 1024, .inl t)), (qn, .inl (cI, 1024, .inl n0)), (qp, .inl (cI, 60, .inl pl)), (qb, .inl (cI, 60, .inl by_)), (qh, .inl (cZ, 1024, .inl (fun p => zI (h p)))), (qd, .inl (cZ, 1024, .inl (fun p => zI (k p))))] sz) s.heap H locs → W p l e { frames := 1, cells := 0, slots := 0, locals := 23 } s m ([.ref h0]).toArray below meth c H locs 0 0 (MQ below (va_Qi (fun (r : Int32) (u : Int32 × Nat × (Nat → Int32) × (Nat → Int32) × (Nat → Bool) × (Nat → Bool)) => rk_apM g t pp by_ h k r u) (fun u s9 => rk_at (dC, dI) [(cI, .int), (cZ, .boolean), (cJ, .long)] (va_A [(h0, .inr (2, [.int th, .int (nI g), .ref qt, .ref qn, .ref qp, .ref qb, .ref qf, .ref qh, .ref qd])), (qt, .inl (cI, 1024, .inl t)), (qn, .inl (cI, 1024, .inl n0)), (qp, .inl (cI, 60, .inl pl)), (qb, .inl (cI, 60, .inl by_)), (qh, .inl (cZ, 1024, .inl (fun p => zI (h p)))), (qd, .inl (cZ, 1024, .inl (fun p => zI (k p))))] sz) [(h0, .inr (2, [.int (u.1), .int (nI u.2.1), .ref qt, .ref qn, .ref qp, .ref qb, .ref qf, .ref qh, .ref qd])), (qt, .inl (cI, 1024, .inl u.2.2.1)), (qn, .inl (cI, 1024, .inl u.2.2.2.1)), (qp, .inl (cI, 60, .inl pl)), (qb, .inl (cI, 60, .inl by_)), (qh, .inl (cZ, 1024, .inl (fun p => zI (u.2.2.2.2.1 p)))), (qd, .inl (cZ, 1024, .inl (fun p => zI (u.2.2.2.2.2 p))))] s9) (va_A [(h0, .inr (2, [.int th, .int (nI g), .ref qt, .ref qn, .ref qp, .ref qb, .ref qf, .ref qh, .ref qd])), (qt, .inl (cI, 1024, .inl t)), (qn, .inl (cI, 1024, .inl n0)), (qp, .inl (cI, 60, .inl pl)), (qb, .inl (cI, 60, .inl by_)), (qh, .inl (cZ, 1024, .inl (fun p => zI (h p)))), (qd, .inl (cZ, 1024, .inl (fun p => zI (k p))))] sz)) ([.ref h0]).toArray s 0 0 (va_A [(h0, .inr (2, [.int th, .int (nI g), .ref qt, .ref qn, .ref qp, .ref qb, .ref qf, .ref qh, .ref qd])), (qt, .inl (cI, 1024, .inl t)), (qn, .inl (cI, 1024, .inl n0)), (qp, .inl (cI, 60, .inl pl)), (qb, .inl (cI, 60, .inl by_)), (qh, .inl (cZ, 1024, .inl (fun p => zI (h p)))), (qd, .inl (cZ, 1024, .inl (fun p => zI (k p))))] sz)) (F0 m 205 ls []) := by
                                            intro kfb
                                            induction kfb with
                                            | zero => intro b hkb hbb hb_ hhb; exact absurd hkb (by omega)
                                            | succ kfb ihb =>
                                              intro b hkb hbb hb_ hhb ls H locs hl hP hD hS
                                              refine lv_iload_n hx hb d_M_apply_205 rfl (lv_at hl 0 rfl) ?_
                                              refine lv_bipush (v := nI 32) hx hb d_M_apply_206 (by decide) ?_
                                              refine lv_icmp_ge (tgt := 243) hx hb d_M_apply_208 (by decide) (fun hcc => ?_) (fun hcc => ?_)
                                              · have hcc := (nI_leI (by omega) (by omega)).mp hcc
                                                have hl := lv_sub (l' := [(2, .int (nI a)), (1, .int (nI v)), (0, .ref h0)]) hl [1, 2, 3] rfl
                                                refine lv_iinc (k := 0) (v := nI (a + 1)) (lv' := [(2, .int (nI (a + 1))), (1, .int (nI v)), (0, .ref h0)]) hx hb d_M_apply_243 hl rfl (nI_1 a) (by decide) rfl (fun ls hl => ?_)
                                                refine lv_goto (tgt := 180) hx hb d_M_apply_246 (by decide) ?_
                                                exact iha (a + 1) (by omega) (by omega) hb_ (fun p hp9 => by rw [hhb p hp9, show b = 32 by omega]; exact rk_jb_32 hcb p) ls H locs hl hP hD hS
                                              · have hcc := rk_gt (by omega) (by omega) hcc
                                                refine lv_aload_n hx hb d_M_apply_211 rfl (lv_at hl 3 rfl) ?_
                                                refine va_get (D := (dC, dI)) (ci := 2) (v := .ref qh) (C := R_M) (T := F_M) (N := 9) hx hb htw u_M hown hK hP 0 rfl rfl 7 (by decide) (htw _ l_M_25) (fun _ h9 => h9) rfl d_M_apply_212 ?_
                                                refine lv_bipush (v := nI 32) hx hb d_M_apply_215 (by decide) ?_
                                                refine lv_iload_n hx hb d_M_apply_217 rfl (lv_at hl 2 rfl) ?_
                                                refine lv_imul hx hb d_M_apply_218 ?_
                                                refine rk_top (y := nI (32 * v)) (pk_mul 32 v) ?_
                                                refine lv_iload_n hx hb d_M_apply_219 rfl (lv_at hl 0 rfl) ?_
                                                refine lv_iadd hx hb d_M_apply_220 ?_
                                                refine rk_top (y := nI (32 * v + b)) (nI_add (32 * v) b) ?_
                                                refine va_zald hx hb hK hP 5 1 rfl rfl (vp_in_nI (n := 32 * v + b) (show 32 * v + b < 1024 by omega) (by decide)) d_M_apply_221 ?_
                                                refine rk_top (y := zI (hb_ (32 * v + b))) (congrArg (fun p => zI (hb_ p)) (nI_clamp (show 32 * v + b < 2 ^ 31 by omega))) ?_
                                                have hvb := (hhb (32 * v + b) (by omega)).trans (rk_jb_at (by omega))
                                                refine lv_if_eq (tgt := 237) hx hb d_M_apply_222 (by decide) (fun hcd => ?_) (fun hcd => ?_)
                                                · have hcd := zI_0.mp hcd
                                                  rw [hvb] at hcd
                                                  refine lv_iinc (k := 0) (v := nI (b + 1)) (lv' := [(3, .int (nI (b + 1))), (2, .int (nI a)), (1, .int (nI v)), (0, .ref h0)]) hx hb d_M_apply_237 hl rfl (nI_1 b) (by decide) rfl (fun ls hl => ?_)
                                                  refine lv_goto (tgt := 205) hx hb d_M_apply_240 (by decide) ?_
                                                  exact ihb (b + 1) (by omega) (by omega) hb_ (fun p hp9 => by rw [hhb p hp9]; exact rk_jb_f (by omega) hcd p) ls H locs hl hP hD hS
                                                · have hcd := zI_n.mp hcd
                                                  rw [hvb] at hcd
                                                  refine lv_aload_n hx hb d_M_apply_225 rfl (lv_at hl 3 rfl) ?_
                                                  refine va_get (D := (dC, dI)) (ci := 2) (v := .ref qh) (C := R_M) (T := F_M) (N := 9) hx hb htw u_M hown hK hP 0 rfl rfl 7 (by decide) (htw _ l_M_25) (fun _ h9 => h9) rfl d_M_apply_226 ?_
                                                  refine lv_bipush (v := nI 32) hx hb d_M_apply_229 (by decide) ?_
                                                  refine lv_iload_n hx hb d_M_apply_231 rfl (lv_at hl 1 rfl) ?_
                                                  refine lv_imul hx hb d_M_apply_232 ?_
                                                  refine rk_top (y := nI (32 * a)) (pk_mul 32 a) ?_
                                                  refine lv_iload_n hx hb d_M_apply_233 rfl (lv_at hl 0 rfl) ?_
                                                  refine lv_iadd hx hb d_M_apply_234 ?_
                                                  refine rk_top (y := nI (32 * a + b)) (nI_add (32 * a) b) ?_
                                                  refine lv_iconst (v := nI 1) hx hb d_M_apply_235 (by decide) ?_
                                                  refine rk_top (y := zI true) rfl ?_
                                                  refine va_zast hx hb hK hP hD hS 5 1 rfl rfl (vp_in_nI (n := 32 * a + b) (show 32 * a + b < 1024 by omega) (by decide)) d_M_apply_236 (fun H locs hP hD hS => ?_)
                                                  rw [nI_clamp (show 32 * a + b < 2 ^ 31 by omega), rk_nz, rk_updz] at hP hD
                                                  have hP : va_P (dC, dI) classes [(h0, .inr (2, [.int (nI 0), .int (nI 0), .ref qt, .ref qn, .ref qp, .ref qb, .ref qf, .ref qh, .ref qd])), (qt, .inl (cI, 1024, .inl t2)), (qn, .inl (cI, 1024, .inl nn)), (qp, .inl (cI, 60, .inl pl)), (qb, .inl (cI, 60, .inl by_)), (qh, .inl (cZ, 1024, .inl (fun p => zI (rk_ub hb_ (32 * a + b) true p)))), (qd, .inl (cZ, 1024, .inl (fun p => zI (kk p))))] H := hP
                                                  have hD : va_D _ [(h0, .inr (2, [.int (nI 0), .int (nI 0), .ref qt, .ref qn, .ref qp, .ref qb, .ref qf, .ref qh, .ref qd])), (qt, .inl (cI, 1024, .inl t2)), (qn, .inl (cI, 1024, .inl nn)), (qp, .inl (cI, 60, .inl pl)), (qb, .inl (cI, 60, .inl by_)), (qh, .inl (cZ, 1024, .inl (fun p => zI (rk_ub hb_ (32 * a + b) true p)))), (qd, .inl (cZ, 1024, .inl (fun p => zI (kk p))))] := hD
                                                  refine lv_iinc (k := 0) (v := nI (b + 1)) (lv' := [(3, .int (nI (b + 1))), (2, .int (nI a)), (1, .int (nI v)), (0, .ref h0)]) hx hb d_M_apply_237 hl rfl (nI_1 b) (by decide) rfl (fun ls hl => ?_)
                                                  refine lv_goto (tgt := 205) hx hb d_M_apply_240 (by decide) ?_
                                                  exact ihb (b + 1) (by omega) (by omega) _ (fun p hp9 => by rw [← rk_jb_t (by omega) hcd p]; unfold rk_ub; rw [hhb p hp9]) ls H locs hl hP hD hS
                                          exact lpb 33 0 (by omega) (by omega) ha (fun p hp9 => by rw [hha p hp9]; exact (rk_jb_0 _ _ _ _).symm) ls _ _ hl hP hD hS
                                        · rw [hav] at hcb
                                          refine lv_goto (tgt := 243) hx hb d_M_apply_200 (by decide) ?_
                                          refine lv_iinc (k := 0) (v := nI (a + 1)) (lv' := [(2, .int (nI (a + 1))), (1, .int (nI v)), (0, .ref h0)]) hx hb d_M_apply_243 hl rfl (nI_1 a) (by decide) rfl (fun ls hl => ?_)
                                          refine lv_goto (tgt := 180) hx hb d_M_apply_246 (by decide) ?_
                                          exact iha (a + 1) (by omega) (by omega) ha (fun p hp9 => by rw [hha p hp9]; exact (rk_j_no (zI_0.mp hcb) p).symm) ls H locs hl hP hD hS
                                  exact lpa 33 0 (by omega) (by omega) hh hhh ls _ _ hl hP hD hS
                            exact lpv 33 0 (by omega) (by omega) h2 hh2 ls _ _ hl hP hD hS
                          · have hc4 := rk_gt (by omega) (by omega) hc4
                            refine lv_aload_n hx hb d_M_apply_120 rfl (lv_at hl 1 rfl) ?_
                            refine va_get (D := (dC, dI)) (ci := 2) (v := .ref qt) (C := R_M) (T := F_M) (N := 9) hx hb htw u_M hown hK hP 0 rfl rfl 2 (by decide) (htw _ l_M_9) (fun _ h9 => h9) rfl d_M_apply_121 ?_
                            refine lv_iload_n hx hb d_M_apply_124 rfl (lv_at hl 0 rfl) ?_
                            refine lv_aload_n hx hb d_M_apply_125 rfl (lv_at hl 1 rfl) ?_
                            refine va_get (D := (dC, dI)) (ci := 2) (v := .ref qn) (C := R_M) (T := F_M) (N := 9) hx hb htw u_M hown hK hP 0 rfl rfl 3 (by decide) (htw _ l_M_13) (fun _ h9 => h9) rfl d_M_apply_126 ?_
                            refine lv_iload_n hx hb d_M_apply_129 rfl (lv_at hl 0 rfl) ?_
                            refine va_iald hx hb hK hP 2 0 rfl rfl (vp_in_nI (n := i) (show i < 1024 by omega) (by decide)) d_M_apply_130 ?_
                            refine rk_top (y := nn i) (congrArg nn (nI_clamp (show i < 2 ^ 31 by omega))) ?_
                            refine va_iast hx hb hK hP hD hS 1 0 rfl rfl (vp_in_nI (n := i) (show i < 1024 by omega) (by decide)) d_M_apply_131 (fun H locs hP hD hS => ?_)
                            rw [nI_clamp (show i < 2 ^ 31 by omega)] at hP hD
                            have hP : va_P (dC, dI) classes [(h0, .inr (2, [.int (nI 0), .int (nI 0), .ref qt, .ref qn, .ref qp, .ref qb, .ref qf, .ref qh, .ref qd])), (qt, .inl (cI, 1024, .inl (upd t2 i (nn i)))), (qn, .inl (cI, 1024, .inl nn)), (qp, .inl (cI, 60, .inl pl)), (qb, .inl (cI, 60, .inl by_)), (qh, .inl (cZ, 1024, .inl (fun p => zI (h2 p)))), (qd, .inl (cZ, 1024, .inl (fun p => zI (kk p))))] H := hP
                            have hD : va_D _ [(h0, .inr (2, [.int (nI 0), .int (nI 0), .ref qt, .ref qn, .ref qp, .ref qb, .ref qf, .ref qh, .ref qd])), (qt, .inl (cI, 1024, .inl (upd t2 i (nn i)))), (qn, .inl (cI, 1024, .inl nn)), (qp, .inl (cI, 60, .inl pl)), (qb, .inl (cI, 60, .inl by_)), (qh, .inl (cZ, 1024, .inl (fun p => zI (h2 p)))), (qd, .inl (cZ, 1024, .inl (fun p => zI (kk p))))] := hD
                            refine lv_aload_n hx hb d_M_apply_132 rfl (lv_at hl 1 rfl) ?_
                            refine va_get (D := (dC, dI)) (ci := 2) (v := .ref qd) (C := R_M) (T := F_M) (N := 9) hx hb htw u_M hown hK hP 0 rfl rfl 8 (by decide) (htw _ l_M_29) (fun _ h9 => h9) rfl d_M_apply_133 ?_
                            refine lv_iload_n hx hb d_M_apply_136 rfl (lv_at hl 0 rfl) ?_
                            refine lv_aload_n hx hb d_M_apply_137 rfl (lv_at hl 1 rfl) ?_
                            refine va_get (D := (dC, dI)) (ci := 2) (v := .ref qh) (C := R_M) (T := F_M) (N := 9) hx hb htw u_M hown hK hP 0 rfl rfl 7 (by decide) (htw _ l_M_25) (fun _ h9 => h9) rfl d_M_apply_138 ?_
                            refine lv_iload_n hx hb d_M_apply_141 rfl (lv_at hl 0 rfl) ?_
                            refine va_zald hx hb hK hP 5 1 rfl rfl (vp_in_nI (n := i) (show i < 1024 by omega) (by decide)) d_M_apply_142 ?_
                            refine rk_top (y := zI (h2 i)) (congrArg (fun p => zI (h2 p)) (nI_clamp (show i < 2 ^ 31 by omega))) ?_
                            refine va_zast hx hb hK hP hD hS 6 1 rfl rfl (vp_in_nI (n := i) (show i < 1024 by omega) (by decide)) d_M_apply_143 (fun H locs hP hD hS => ?_)
                            rw [nI_clamp (show i < 2 ^ 31 by omega), rk_nz, rk_updz] at hP hD
                            have hP : va_P (dC, dI) classes [(h0, .inr (2, [.int (nI 0), .int (nI 0), .ref qt, .ref qn, .ref qp, .ref qb, .ref qf, .ref qh, .ref qd])), (qt, .inl (cI, 1024, .inl (upd t2 i (nn i)))), (qn, .inl (cI, 1024, .inl nn)), (qp, .inl (cI, 60, .inl pl)), (qb, .inl (cI, 60, .inl by_)), (qh, .inl (cZ, 1024, .inl (fun p => zI (h2 p)))), (qd, .inl (cZ, 1024, .inl (fun p => zI (rk_ub kk i (h2 i) p))))] H := hP
                            have hD : va_D _ [(h0, .inr (2, [.int (nI 0), .int (nI 0), .ref qt, .ref qn, .ref qp, .ref qb, .ref qf, .ref qh, .ref qd])), (qt, .inl (cI, 1024, .inl (upd t2 i (nn i)))), (qn, .inl (cI, 1024, .inl nn)), (qp, .inl (cI, 60, .inl pl)), (qb, .inl (cI, 60, .inl by_)), (qh, .inl (cZ, 1024, .inl (fun p => zI (h2 p)))), (qd, .inl (cZ, 1024, .inl (fun p => zI (rk_ub kk i (h2 i) p))))] := hD
                            refine lv_aload_n hx hb d_M_apply_144 rfl (lv_at hl 1 rfl) ?_
                            refine va_get (D := (dC, dI)) (ci := 2) (v := .ref qh) (C := R_M) (T := F_M) (N := 9) hx hb htw u_M hown hK hP 0 rfl rfl 7 (by decide) (htw _ l_M_25) (fun _ h9 => h9) rfl d_M_apply_145 ?_
                            refine lv_iload_n hx hb d_M_apply_148 rfl (lv_at hl 0 rfl) ?_
                            refine lv_aload_n hx hb d_M_apply_149 rfl (lv_at hl 1 rfl) ?_
                            refine va_get (D := (dC, dI)) (ci := 2) (v := .ref qt) (C := R_M) (T := F_M) (N := 9) hx hb htw u_M hown hK hP 0 rfl rfl 2 (by decide) (htw _ l_M_9) (fun _ h9 => h9) rfl d_M_apply_150 ?_
                            refine lv_iload_n hx hb d_M_apply_153 rfl (lv_at hl 0 rfl) ?_
                            refine va_iald hx hb hK hP 1 0 rfl rfl (vp_in_nI (n := i) (show i < 1024 by omega) (by decide)) d_M_apply_154 ?_
                            refine rk_top (y := (upd t2 i (nn i)) i) (congrArg (upd t2 i (nn i)) (nI_clamp (show i < 2 ^ 31 by omega))) ?_
                            have e4 : upd t2 i (nn i) i = nn i := pk_us
                            refine lv_if_le (tgt := 162) hx hb d_M_apply_155 (by decide) (fun hc5 => ?_) (fun hc5 => ?_)
                            · refine lv_iconst (v := nI 0) hx hb d_M_apply_162 (by decide) ?_
                              refine rk_top (y := zI (decide (0 < nn i))) (by rw [e4] at hc5; rw [decide_eq_false (Int32.not_lt.mpr hc5)]; rfl) ?_
                              refine va_zast hx hb hK hP hD hS 5 1 rfl rfl (vp_in_nI (n := i) (show i < 1024 by omega) (by decide)) d_M_apply_163 (fun H locs hP hD hS => ?_)
                              rw [nI_clamp (show i < 2 ^ 31 by omega), rk_nz, rk_updz] at hP hD
                              have hP : va_P (dC, dI) classes [(h0, .inr (2, [.int (nI 0), .int (nI 0), .ref qt, .ref qn, .ref qp, .ref qb, .ref qf, .ref qh, .ref qd])), (qt, .inl (cI, 1024, .inl (upd t2 i (nn i)))), (qn, .inl (cI, 1024, .inl nn)), (qp, .inl (cI, 60, .inl pl)), (qb, .inl (cI, 60, .inl by_)), (qh, .inl (cZ, 1024, .inl (fun p => zI (rk_ub h2 i (decide (0 < nn i)) p)))), (qd, .inl (cZ, 1024, .inl (fun p => zI (rk_ub kk i (h2 i) p))))] H := hP
                              have hD : va_D _ [(h0, .inr (2, [.int (nI 0), .int (nI 0), .ref qt, .ref qn, .ref qp, .ref qb, .ref qf, .ref qh, .ref qd])), (qt, .inl (cI, 1024, .inl (upd t2 i (nn i)))), (qn, .inl (cI, 1024, .inl nn)), (qp, .inl (cI, 60, .inl pl)), (qb, .inl (cI, 60, .inl by_)), (qh, .inl (cZ, 1024, .inl (fun p => zI (rk_ub h2 i (decide (0 < nn i)) p)))), (qd, .inl (cZ, 1024, .inl (fun p => zI (rk_ub kk i (h2 i) p))))] := hD
                              refine lv_iinc (k := 0) (v := nI (i + 1)) (lv' := [(1, .int (nI (i + 1))), (0, .ref h0)]) hx hb d_M_apply_164 hl rfl (nI_1 i) (by decide) rfl (fun ls hl => ?_)
                              refine lv_goto (tgt := 113) hx hb d_M_apply_167 (by decide) ?_
                              exact ih4 (i + 1) (by omega) (by omega) _ (rk_ups ht2) _ (rk_ubs hh2) _ (rk_ubs2 hkk (by rw [hh2 i (by omega), if_neg (by omega)])) ls H locs hl hP hD hS
                            · refine lv_iconst (v := nI 1) hx hb d_M_apply_158 (by decide) ?_
                              refine lv_goto (tgt := 163) hx hb d_M_apply_159 (by decide) ?_
                              refine rk_top (y := zI (decide (0 < nn i))) (by rw [e4] at hc5; rw [decide_eq_true (Int32.not_le.mp hc5)]; rfl) ?_
                              refine va_zast hx hb hK hP hD hS 5 1 rfl rfl (vp_in_nI (n := i) (show i < 1024 by omega) (by decide)) d_M_apply_163 (fun H locs hP hD hS => ?_)
                              rw [nI_clamp (show i < 2 ^ 31 by omega), rk_nz, rk_updz] at hP hD
                              have hP : va_P (dC, dI) classes [(h0, .inr (2, [.int (nI 0), .int (nI 0), .ref qt, .ref qn, .ref qp, .ref qb, .ref qf, .ref qh, .ref qd])), (qt, .inl (cI, 1024, .inl (upd t2 i (nn i)))), (qn, .inl (cI, 1024, .inl nn)), (qp, .inl (cI, 60, .inl pl)), (qb, .inl (cI, 60, .inl by_)), (qh, .inl (cZ, 1024, .inl (fun p => zI (rk_ub h2 i (decide (0 < nn i)) p)))), (qd, .inl (cZ, 1024, .inl (fun p => zI (rk_ub kk i (h2 i) p))))] H := hP
                              have hD : va_D _ [(h0, .inr (2, [.int (nI 0), .int (nI 0), .ref qt, .ref qn, .ref qp, .ref qb, .ref qf, .ref qh, .ref qd])), (qt, .inl (cI, 1024, .inl (upd t2 i (nn i)))), (qn, .inl (cI, 1024, .inl nn)), (qp, .inl (cI, 60, .inl pl)), (qb, .inl (cI, 60, .inl by_)), (qh, .inl (cZ, 1024, .inl (fun p => zI (rk_ub h2 i (decide (0 < nn i)) p)))), (qd, .inl (cZ, 1024, .inl (fun p => zI (rk_ub kk i (h2 i) p))))] := hD
                              refine lv_iinc (k := 0) (v := nI (i + 1)) (lv' := [(1, .int (nI (i + 1))), (0, .ref h0)]) hx hb d_M_apply_164 hl rfl (nI_1 i) (by decide) rfl (fun ls hl => ?_)
                              refine lv_goto (tgt := 113) hx hb d_M_apply_167 (by decide) ?_
                              exact ih4 (i + 1) (by omega) (by omega) _ (rk_ups ht2) _ (rk_ubs hh2) _ (rk_ubs2 hkk (by rw [hh2 i (by omega), if_neg (by omega)])) ls H locs hl hP hD hS
                      exact lp4 1025 0 (by omega) (by omega) t (fun p _ => (if_neg (by omega)).symm) h (fun p _ => (if_neg (by omega)).symm) k (fun p _ => (if_neg (by omega)).symm) ls _ _ hl hP hD hS
                    · rw [hx3, zI_le] at hd3
                      have hd3 := ts_nf hd3
                      rw [hd3] at hx3
                      obtain ⟨p9, hp9, hq9⟩ := rk_any_iff.mp hd3
                      refine lv_iconst (v := nI 0) hx hb d_M_apply_104 (by decide) ?_
                      exact rk_iret ((x3, g, t, nn, h, k)) hx hb hr hlocks (Or.inl ⟨⟨p9, hp9, by rw [← hnn p9 hp9]; exact of_decide_eq_true hq9⟩, hx3, rfl, rfl, rfl, rfl⟩) rfl hP hK hD hS d_M_apply_105
                  · have hc3 := rk_gt (by omega) (by omega) hc3
                    refine lv_aload_n hx hb d_M_apply_77 rfl (lv_at hl 1 rfl) ?_
                    refine va_get (D := (dC, dI)) (ci := 2) (v := .ref qn) (C := R_M) (T := F_M) (N := 9) hx hb htw u_M hown hK hP 0 rfl rfl 3 (by decide) (htw _ l_M_13) (fun _ h9 => h9) rfl d_M_apply_78 ?_
                    refine lv_iload_n hx hb d_M_apply_81 rfl (lv_at hl 0 rfl) ?_
                    refine va_iald hx hb hK hP 2 0 rfl rfl (vp_in_nI (n := i) (show i < 1024 by omega) (by decide)) d_M_apply_82 ?_
                    refine rk_top (y := nn i) (congrArg nn (nI_clamp (show i < 2 ^ 31 by omega))) ?_
                    refine lv_if_ge (tgt := 91) hx hb d_M_apply_83 (by decide) (fun hd3 => ?_) (fun hd3 => ?_)
                    · refine lv_iinc (k := 0) (v := nI (i + 1)) (lv' := [(1, .int (nI (i + 1))), (0, .ref h0)]) hx hb d_M_apply_91 hl rfl (nI_1 i) (by decide) rfl (fun ls hl => ?_)
                      refine lv_goto (tgt := 70) hx hb d_M_apply_94 (by decide) ?_
                      exact ih3 (i + 1) (by omega) (by omega) x3 (by rw [rk_any_s, decide_eq_false (Int32.not_lt.mpr hd3), Bool.or_false]; exact hx3) ls H locs hl hP hD hS
                    · refine lv_aload_n hx hb d_M_apply_86 rfl (lv_at hl 1 rfl) ?_
                      refine lv_iconst (v := nI 1) hx hb d_M_apply_87 (by decide) ?_
                      refine va_put (D := (dC, dI)) (ci := 2) (v := .int (nI 1)) (ty := .int) (C := R_M) (T := F_M) (N := 9) hx hb htw u_M t_M t_M_ok n_M hown hK hP hD hS 0 rfl rfl 0 (by decide) (htw _ l_M_32) (fun _ h9 => h9) rfl (by decide +kernel) rfl rfl (Nat.le_of_ble_eq_true rfl) d_M_apply_88 (fun H locs hP hD hS => ?_)
                      have hP : va_P (dC, dI) classes [(h0, .inr (2, [.int (nI 1), .int (nI g), .ref qt, .ref qn, .ref qp, .ref qb, .ref qf, .ref qh, .ref qd])), (qt, .inl (cI, 1024, .inl t)), (qn, .inl (cI, 1024, .inl nn)), (qp, .inl (cI, 60, .inl pl)), (qb, .inl (cI, 60, .inl by_)), (qh, .inl (cZ, 1024, .inl (fun p => zI (h p)))), (qd, .inl (cZ, 1024, .inl (fun p => zI (k p))))] H := hP
                      have hD : va_D _ [(h0, .inr (2, [.int (nI 1), .int (nI g), .ref qt, .ref qn, .ref qp, .ref qb, .ref qf, .ref qh, .ref qd])), (qt, .inl (cI, 1024, .inl t)), (qn, .inl (cI, 1024, .inl nn)), (qp, .inl (cI, 60, .inl pl)), (qb, .inl (cI, 60, .inl by_)), (qh, .inl (cZ, 1024, .inl (fun p => zI (h p)))), (qd, .inl (cZ, 1024, .inl (fun p => zI (k p))))] := hD
                      refine lv_iinc (k := 0) (v := nI (i + 1)) (lv' := [(1, .int (nI (i + 1))), (0, .ref h0)]) hx hb d_M_apply_91 hl rfl (nI_1 i) (by decide) rfl (fun ls hl => ?_)
                      refine lv_goto (tgt := 70) hx hb d_M_apply_94 (by decide) ?_
                      exact ih3 (i + 1) (by omega) (by omega) (nI 1) (by rw [rk_any_s, decide_eq_true (Int32.not_le.mp hd3), Bool.or_true]; rfl) ls H locs hl hP hD hS
              exact lp3 1025 0 (by omega) (by omega) (nI 0) rfl ls _ _ hl hP hD hS
            · have hc2 := rk_gt (by omega) (by omega) hc2
              obtain ⟨hpi, hpi2⟩ := hpl i (by omega)
              refine lv_aload_n hx hb d_M_apply_37 rfl (lv_at hl 1 rfl) ?_
              refine va_get (D := (dC, dI)) (ci := 2) (v := .ref qn) (C := R_M) (T := F_M) (N := 9) hx hb htw u_M hown hK hP 0 rfl rfl 3 (by decide) (htw _ l_M_13) (fun _ h9 => h9) rfl d_M_apply_38 ?_
              refine lv_aload_n hx hb d_M_apply_41 rfl (lv_at hl 1 rfl) ?_
              refine va_get (D := (dC, dI)) (ci := 2) (v := .ref qp) (C := R_M) (T := F_M) (N := 9) hx hb htw u_M hown hK hP 0 rfl rfl 4 (by decide) (htw _ l_M_16) (fun _ h9 => h9) rfl d_M_apply_42 ?_
              refine lv_iload_n hx hb d_M_apply_45 rfl (lv_at hl 0 rfl) ?_
              refine va_iald hx hb hK hP 3 0 rfl rfl (vp_in_nI (n := i) (show i < 60 by omega) (by decide)) d_M_apply_46 ?_
              refine rk_top (y := pl i) (congrArg pl (nI_clamp (show i < 2 ^ 31 by omega))) ?_
              refine rk_top (y := nI (pp i)) hpi ?_
              refine lv_dup2_11 hx hb d_M_apply_47 rfl rfl ?_
              refine va_iald hx hb hK hP 2 0 rfl rfl (vp_in_nI (n := pp i) (show pp i < 1024 by omega) (by decide)) d_M_apply_48 ?_
              refine rk_top (y := nn (pp i)) (congrArg nn (nI_clamp (show pp i < 2 ^ 31 by omega))) ?_
              refine lv_aload_n hx hb d_M_apply_49 rfl (lv_at hl 1 rfl) ?_
              refine va_get (D := (dC, dI)) (ci := 2) (v := .ref qb) (C := R_M) (T := F_M) (N := 9) hx hb htw u_M hown hK hP 0 rfl rfl 5 (by decide) (htw _ l_M_19) (fun _ h9 => h9) rfl d_M_apply_50 ?_
              refine lv_iload_n hx hb d_M_apply_53 rfl (lv_at hl 0 rfl) ?_
              refine va_iald hx hb hK hP 4 0 rfl rfl (vp_in_nI (n := i) (show i < 60 by omega) (by decide)) d_M_apply_54 ?_
              refine rk_top (y := by_ i) (congrArg by_ (nI_clamp (show i < 2 ^ 31 by omega))) ?_
              refine lv_iadd hx hb d_M_apply_55 ?_
              refine va_iast hx hb hK hP hD hS 2 0 rfl rfl (vp_in_nI (n := pp i) (show pp i < 1024 by omega) (by decide)) d_M_apply_56 (fun H locs hP hD hS => ?_)
              rw [nI_clamp (show pp i < 2 ^ 31 by omega)] at hP hD
              have hP : va_P (dC, dI) classes [(h0, .inr (2, [.int th, .int (nI g), .ref qt, .ref qn, .ref qp, .ref qb, .ref qf, .ref qh, .ref qd])), (qt, .inl (cI, 1024, .inl t)), (qn, .inl (cI, 1024, .inl (upd nn (pp i) ((nn (pp i)) + (by_ i))))), (qp, .inl (cI, 60, .inl pl)), (qb, .inl (cI, 60, .inl by_)), (qh, .inl (cZ, 1024, .inl (fun p => zI (h p)))), (qd, .inl (cZ, 1024, .inl (fun p => zI (k p))))] H := hP
              have hD : va_D _ [(h0, .inr (2, [.int th, .int (nI g), .ref qt, .ref qn, .ref qp, .ref qb, .ref qf, .ref qh, .ref qd])), (qt, .inl (cI, 1024, .inl t)), (qn, .inl (cI, 1024, .inl (upd nn (pp i) ((nn (pp i)) + (by_ i))))), (qp, .inl (cI, 60, .inl pl)), (qb, .inl (cI, 60, .inl by_)), (qh, .inl (cZ, 1024, .inl (fun p => zI (h p)))), (qd, .inl (cZ, 1024, .inl (fun p => zI (k p))))] := hD
              refine lv_iinc (k := 0) (v := nI (i + 1)) (lv' := [(1, .int (nI (i + 1))), (0, .ref h0)]) hx hb d_M_apply_57 hl rfl (nI_1 i) (by decide) rfl (fun ls hl => ?_)
              refine lv_goto (tgt := 29) hx hb d_M_apply_60 (by decide) ?_
              exact ih2 (i + 1) (by omega) (by omega) _ (fun p hp9 => by rw [rk_s_s]; exact rk_s_add hnn hpi2 p hp9) ls H locs hl hP hD hS
        exact lp2 (g + 1) 0 (by omega) (by omega) x (fun p hp9 => by rw [hx0 p (by omega)]; exact (Int32.add_zero _).symm) ls _ _ hl hP hD hS
      · have hc := rk_gt (by omega) (by omega) hc
        refine lv_aload_n hx hb d_M_apply_9 rfl (lv_at hl 1 rfl) ?_
        refine va_get (D := (dC, dI)) (ci := 2) (v := .ref qn) (C := R_M) (T := F_M) (N := 9) hx hb htw u_M hown hK hP 0 rfl rfl 3 (by decide) (htw _ l_M_13) (fun _ h9 => h9) rfl d_M_apply_10 ?_
        refine lv_iload_n hx hb d_M_apply_13 rfl (lv_at hl 0 rfl) ?_
        refine lv_aload_n hx hb d_M_apply_14 rfl (lv_at hl 1 rfl) ?_
        refine va_get (D := (dC, dI)) (ci := 2) (v := .ref qt) (C := R_M) (T := F_M) (N := 9) hx hb htw u_M hown hK hP 0 rfl rfl 2 (by decide) (htw _ l_M_9) (fun _ h9 => h9) rfl d_M_apply_15 ?_
        refine lv_iload_n hx hb d_M_apply_18 rfl (lv_at hl 0 rfl) ?_
        refine va_iald hx hb hK hP 1 0 rfl rfl (vp_in_nI (n := i) (show i < 1024 by omega) (by decide)) d_M_apply_19 ?_
        refine rk_top (y := t i) (congrArg t (nI_clamp (show i < 2 ^ 31 by omega))) ?_
        refine va_iast hx hb hK hP hD hS 2 0 rfl rfl (vp_in_nI (n := i) (show i < 1024 by omega) (by decide)) d_M_apply_20 (fun H locs hP hD hS => ?_)
        rw [nI_clamp (show i < 2 ^ 31 by omega)] at hP hD
        have hP : va_P (dC, dI) classes [(h0, .inr (2, [.int th, .int (nI g), .ref qt, .ref qn, .ref qp, .ref qb, .ref qf, .ref qh, .ref qd])), (qt, .inl (cI, 1024, .inl t)), (qn, .inl (cI, 1024, .inl (upd x i (t i)))), (qp, .inl (cI, 60, .inl pl)), (qb, .inl (cI, 60, .inl by_)), (qh, .inl (cZ, 1024, .inl (fun p => zI (h p)))), (qd, .inl (cZ, 1024, .inl (fun p => zI (k p))))] H := hP
        have hD : va_D _ [(h0, .inr (2, [.int th, .int (nI g), .ref qt, .ref qn, .ref qp, .ref qb, .ref qf, .ref qh, .ref qd])), (qt, .inl (cI, 1024, .inl t)), (qn, .inl (cI, 1024, .inl (upd x i (t i)))), (qp, .inl (cI, 60, .inl pl)), (qb, .inl (cI, 60, .inl by_)), (qh, .inl (cZ, 1024, .inl (fun p => zI (h p)))), (qd, .inl (cZ, 1024, .inl (fun p => zI (k p))))] := hD
        refine lv_iinc (k := 0) (v := nI (i + 1)) (lv' := [(1, .int (nI (i + 1))), (0, .ref h0)]) hx hb d_M_apply_21 hl rfl (nI_1 i) (by decide) rfl (fun ls hl => ?_)
        refine lv_goto (tgt := 2) hx hb d_M_apply_24 (by decide) ?_
        exact ih (i + 1) (by omega) (by omega) _ (rk_upd_lt hx0 rfl) ls H locs hl hP hD hS
  exact lp 1025 0 (by omega) (by omega) n0 (fun j hj => by omega) ls _ _ hl hP hD hS
end
section
set_option maxHeartbeats 4000000 in
set_option maxRecDepth 100000 in
theorem c_M_distance (l : Launch) (dC : Nat → ClassId) (dI : Nat → Nat → Nat) (cI cZ cJ : ClassId) (sz : Nat) (h0 qt qn qp qb qf qh qd : Nat) (th : Int32) (g : Nat) (t fr : Nat → Int32) (h : Nat → Bool) (hcl : ∀ p, p < 1024 → h p = rk_jv 32 (fun p => decide (0 < t p)) p) (x y : Int32) : Met l y_M_distance (.code y_M_distance b_M_distance 6 (some .int) :: WT) { frames := 1, cells := 0, slots := 0, locals := 20 } (va_Pc [.ref h0, .int x, .int y] (rk_pre (dC, dI) [(cI, .int), (cZ, .boolean), (cJ, .long)] sz [(h0, .inr (2, [.int th, .int (nI g), .ref qt, .ref qn, .ref qp, .ref qb, .ref qf, .ref qh, .ref qd])), (qt, .inl (cI, 1024, .inl t)), (qf, .inl (cI, 32, .inl fr)), (qh, .inl (cZ, 1024, .inl (fun p => zI (h p))))])) (va_Qi (fun (r : Int32) (u : Int32 × (Nat → Int32)) => rk_diM t h x y r u) (fun u s9 => rk_at (dC, dI) [(cI, .int), (cZ, .boolean), (cJ, .long)] (va_A [(h0, .inr (2, [.int th, .int (nI g), .ref qt, .ref qn, .ref qp, .ref qb, .ref qf, .ref qh, .ref qd])), (qt, .inl (cI, 1024, .inl t)), (qf, .inl (cI, 32, .inl fr)), (qh, .inl (cZ, 1024, .inl (fun p => zI (h p))))] sz) [(h0, .inr (2, [.int (u.1), .int (nI g), .ref qt, .ref qn, .ref qp, .ref qb, .ref qf, .ref qh, .ref qd])), (qt, .inl (cI, 1024, .inl t)), (qf, .inl (cI, 32, .inl u.2)), (qh, .inl (cZ, 1024, .inl (fun p => zI (h p))))] s9) (va_A [(h0, .inr (2, [.int th, .int (nI g), .ref qt, .ref qn, .ref qp, .ref qb, .ref qf, .ref qh, .ref qd])), (qt, .inl (cI, 1024, .inl t)), (qf, .inl (cI, 32, .inl fr)), (qh, .inl (cZ, 1024, .inl (fun p => zI (h p))))] sz)) 0 0 (va_A [(h0, .inr (2, [.int th, .int (nI g), .ref qt, .ref qn, .ref qp, .ref qb, .ref qf, .ref qh, .ref qd])), (qt, .inl (cI, 1024, .inl t)), (qf, .inl (cI, 32, .inl fr)), (qh, .inl (cZ, 1024, .inl (fun p => zI (h p))))] sz) := by
  refine rk_body (by decide) (Nat.le_of_ble_eq_true rfl) ?_
  intro p e s m below meth c hx hb hml hr htw hown hlocks hin hsz hP hK hD hA hS ls hl
  have hown : s.vm.findClass R_M = some m.cls := hown
  have hl : lv_has ls 6 [(0, .ref h0), (1, .int x), (2, .int y)] := hl
  refine lv_aload_n hx hb d_M_distance_0 rfl (lv_at hl 0 rfl) ?_
  refine lv_iload_n hx hb d_M_distance_1 rfl (lv_at hl 1 rfl) ?_
  refine rk_backi (wc := []) (wr := [(h0, .inr (2, [.int th, .int (nI g), .ref qt, .ref qn, .ref qp, .ref qb, .ref qf, .ref qh, .ref qd])), (qt, .inl (cI, 1024, .inl t)), (qf, .inl (cI, 32, .inl fr)), (qh, .inl (cZ, 1024, .inl (fun p => zI (h p))))]) (va_runS (As := [.int x]) (rest := [.ref h0]) ⟨hx, hb, hml, hown, htw⟩ (c_M_isVertex l dC dI cI cZ cJ _ x) (rk_cwS 1 htw gc_M_distance_2 (by decide +kernel) ⟨(Nat.le_of_ble_eq_true rfl), (Nat.le_of_ble_eq_true rfl)⟩) (⟨rk_blind, rk_give (rk_psub (isC := []) hP rfl) hK (hD.sub [] rfl rfl)⟩) rfl rfl hl.1 rfl (lv_room (Nat.le_of_ble_eq_true rfl)) d_M_distance_2 ⟨(Nat.le_of_ble_eq_true rfl), (Nat.le_of_ble_eq_true rfl)⟩) hP hD hS hA [] [0, 1, 2, 3] rfl rfl rfl (by decide) (fun x5 u5 H locs hp hP hD hS => ?_)
  subst hp
  have hP : va_P (dC, dI) classes [(h0, .inr (2, [.int th, .int (nI g), .ref qt, .ref qn, .ref qp, .ref qb, .ref qf, .ref qh, .ref qd])), (qt, .inl (cI, 1024, .inl t)), (qf, .inl (cI, 32, .inl fr)), (qh, .inl (cZ, 1024, .inl (fun p => zI (h p))))] H := hP
  have hD : va_D _ [(h0, .inr (2, [.int th, .int (nI g), .ref qt, .ref qn, .ref qp, .ref qb, .ref qf, .ref qh, .ref qd])), (qt, .inl (cI, 1024, .inl t)), (qf, .inl (cI, 32, .inl fr)), (qh, .inl (cZ, 1024, .inl (fun p => zI (h p))))] := hD
  refine lv_if_eq (tgt := 15) hx hb d_M_distance_5 (by decide) (fun hc => ?_) (fun hc => ?_)
  · have hv : (rk_v x && rk_v y) = false := by rw [zI_0.mp hc]; rfl
    refine lv_iconst (v := nI 1) hx hb d_M_distance_15 (by decide) ?_
    refine lv_goto (tgt := 38) hx hb d_M_distance_16 (by decide) ?_
    refine va_put (D := (dC, dI)) (ci := 2) (v := .int (nI 1)) (ty := .int) (C := R_M) (T := F_M) (N := 9) hx hb htw u_M t_M t_M_ok n_M hown hK hP hD hS 0 rfl rfl 0 (by decide) (htw _ l_M_32) (fun _ h9 => h9) rfl (by decide +kernel) rfl rfl (Nat.le_of_ble_eq_true rfl) d_M_distance_38 (fun H locs hP hD hS => ?_)
    have hP : va_P (dC, dI) classes [(h0, .inr (2, [.int (nI 1), .int (nI g), .ref qt, .ref qn, .ref qp, .ref qb, .ref qf, .ref qh, .ref qd])), (qt, .inl (cI, 1024, .inl t)), (qf, .inl (cI, 32, .inl fr)), (qh, .inl (cZ, 1024, .inl (fun p => zI (h p))))] H := hP
    have hD : va_D _ [(h0, .inr (2, [.int (nI 1), .int (nI g), .ref qt, .ref qn, .ref qp, .ref qb, .ref qf, .ref qh, .ref qd])), (qt, .inl (cI, 1024, .inl t)), (qf, .inl (cI, 32, .inl fr)), (qh, .inl (cZ, 1024, .inl (fun p => zI (h p))))] := hD
    refine lv_aload_n hx hb d_M_distance_41 rfl (lv_at hl 0 rfl) ?_
    refine va_get (D := (dC, dI)) (ci := 2) (v := .int (nI 1)) (C := R_M) (T := F_M) (N := 9) hx hb htw u_M hown hK hP 0 rfl rfl 0 (by decide) (htw _ l_M_32) (fun _ h9 => h9) rfl d_M_distance_42 ?_
    refine lv_if_le (tgt := 50) hx hb d_M_distance_45 (by decide) (fun hd1 => ?_) (fun hd1 => ?_)
    · exact absurd hd1 (by decide)
    · refine lv_iconst (v := nI 0) hx hb d_M_distance_48 (by decide) ?_
      exact rk_iret ((nI 1, fr)) hx hb hr hlocks (Or.inl ⟨hv, rfl⟩) rfl hP hK hD hS d_M_distance_49
  · refine lv_iload_n hx hb d_M_distance_8 rfl (lv_at hl 2 rfl) ?_
    refine rk_backi (wc := []) (wr := [(h0, .inr (2, [.int th, .int (nI g), .ref qt, .ref qn, .ref qp, .ref qb, .ref qf, .ref qh, .ref qd])), (qt, .inl (cI, 1024, .inl t)), (qf, .inl (cI, 32, .inl fr)), (qh, .inl (cZ, 1024, .inl (fun p => zI (h p))))]) (va_runS (As := [.int y]) (rest := [.ref h0]) ⟨hx, hb, hml, hown, htw⟩ (c_M_isVertex l dC dI cI cZ cJ _ y) (rk_cwS 1 htw gc_M_distance_9 (by decide +kernel) ⟨(Nat.le_of_ble_eq_true rfl), (Nat.le_of_ble_eq_true rfl)⟩) (⟨rk_blind, rk_give (rk_psub (isC := []) hP rfl) hK (hD.sub [] rfl rfl)⟩) rfl rfl hl.1 rfl (lv_room (Nat.le_of_ble_eq_true rfl)) d_M_distance_9 ⟨(Nat.le_of_ble_eq_true rfl), (Nat.le_of_ble_eq_true rfl)⟩) hP hD hS hA [] [0, 1, 2, 3] rfl rfl rfl (by decide) (fun x6 u6 H locs hp hP hD hS => ?_)
    subst hp
    have hP : va_P (dC, dI) classes [(h0, .inr (2, [.int th, .int (nI g), .ref qt, .ref qn, .ref qp, .ref qb, .ref qf, .ref qh, .ref qd])), (qt, .inl (cI, 1024, .inl t)), (qf, .inl (cI, 32, .inl fr)), (qh, .inl (cZ, 1024, .inl (fun p => zI (h p))))] H := hP
    have hD : va_D _ [(h0, .inr (2, [.int th, .int (nI g), .ref qt, .ref qn, .ref qp, .ref qb, .ref qf, .ref qh, .ref qd])), (qt, .inl (cI, 1024, .inl t)), (qf, .inl (cI, 32, .inl fr)), (qh, .inl (cZ, 1024, .inl (fun p => zI (h p))))] := hD
    refine lv_if_ne (tgt := 19) hx hb d_M_distance_12 (by decide) (fun hc2 => ?_) (fun hc2 => ?_)
    · obtain ⟨a, ha, hxa⟩ := rk_v_t (zI_n.mp hc)
      obtain ⟨b, hb32, hyb⟩ := rk_v_t (zI_n.mp hc2)
      have hl : lv_has ls 6 [(0, .ref h0), (1, .int (nI a)), (2, .int (nI b))] := by rw [← hxa, ← hyb]; exact hl
      refine lv_aload_n hx hb d_M_distance_19 rfl (lv_at hl 0 rfl) ?_
      refine va_get (D := (dC, dI)) (ci := 2) (v := .ref qh) (C := R_M) (T := F_M) (N := 9) hx hb htw u_M hown hK hP 0 rfl rfl 7 (by decide) (htw _ l_M_25) (fun _ h9 => h9) rfl d_M_distance_20 ?_
      refine lv_bipush (v := nI 32) hx hb d_M_distance_23 (by decide) ?_
      refine lv_iload_n hx hb d_M_distance_25 rfl (lv_at hl 1 rfl) ?_
      refine lv_imul hx hb d_M_distance_26 ?_
      refine rk_top (y := nI (32 * a)) (pk_mul 32 a) ?_
      refine lv_iload_n hx hb d_M_distance_27 rfl (lv_at hl 2 rfl) ?_
      refine lv_iadd hx hb d_M_distance_28 ?_
      refine rk_top (y := nI (32 * a + b)) (nI_add (32 * a) b) ?_
      refine va_zald hx hb hK hP 3 1 rfl rfl (vp_in_nI (n := 32 * a + b) (show 32 * a + b < 1024 by omega) (by decide)) d_M_distance_29 ?_
      refine rk_top (y := zI (h (32 * a + b))) (congrArg (fun p => zI (h p)) (nI_clamp (show 32 * a + b < 2 ^ 31 by omega))) ?_
      refine lv_if_ne (tgt := 37) hx hb d_M_distance_30 (by decide) (fun hc3 => ?_) (fun hc3 => ?_)
      · have hc3 := zI_n.mp hc3
        refine lv_iconst (v := nI 0) hx hb d_M_distance_37 (by decide) ?_
        refine va_put (D := (dC, dI)) (ci := 2) (v := .int (nI 0)) (ty := .int) (C := R_M) (T := F_M) (N := 9) hx hb htw u_M t_M t_M_ok n_M hown hK hP hD hS 0 rfl rfl 0 (by decide) (htw _ l_M_32) (fun _ h9 => h9) rfl (by decide +kernel) rfl rfl (Nat.le_of_ble_eq_true rfl) d_M_distance_38 (fun H locs hP hD hS => ?_)
        have hP : va_P (dC, dI) classes [(h0, .inr (2, [.int (nI 0), .int (nI g), .ref qt, .ref qn, .ref qp, .ref qb, .ref qf, .ref qh, .ref qd])), (qt, .inl (cI, 1024, .inl t)), (qf, .inl (cI, 32, .inl fr)), (qh, .inl (cZ, 1024, .inl (fun p => zI (h p))))] H := hP
        have hD : va_D _ [(h0, .inr (2, [.int (nI 0), .int (nI g), .ref qt, .ref qn, .ref qp, .ref qb, .ref qf, .ref qh, .ref qd])), (qt, .inl (cI, 1024, .inl t)), (qf, .inl (cI, 32, .inl fr)), (qh, .inl (cZ, 1024, .inl (fun p => zI (h p))))] := hD
        refine lv_aload_n hx hb d_M_distance_41 rfl (lv_at hl 0 rfl) ?_
        refine va_get (D := (dC, dI)) (ci := 2) (v := .int (nI 0)) (C := R_M) (T := F_M) (N := 9) hx hb htw u_M hown hK hP 0 rfl rfl 0 (by decide) (htw _ l_M_32) (fun _ h9 => h9) rfl d_M_distance_42 ?_
        refine lv_if_le (tgt := 50) hx hb d_M_distance_45 (by decide) (fun hd1 => ?_) (fun hd1 => ?_)
        · obtain ⟨K, hKb⟩ := (rk_reach (e := (fun p => decide (0 < t p))) ha hb32).mp (by rw [← hcl _ (by omega)]; exact hc3)
          obtain ⟨K, hK32, hKb, hKn⟩ := rk_w_32 hb32 hKb
          refine lv_iconst (v := nI 0) hx hb d_M_distance_50 (by decide) ?_
          refine lv_istore_n (lv' := [(3, .int (nI 0)), (0, .ref h0), (1, .int (nI a)), (2, .int (nI b))]) hx hb d_M_distance_51 rfl hl (by decide) rfl (fun ls hl => ?_)
          have lp1 : ∀ (kf1 : Nat) (i : Nat), 32 - i < kf1 → i ≤ 32 → ∀ z : Nat → Int32, (∀ j, j < i → z j = nI (rk_d (fun p => decide (0 < t p)) a 0 j)) → ∀ (ls : Array Slot) (H : Heap) (locs : List Loc), lv_has ls 6 [(3, .int (nI i)), (0, .ref h0), (1, .int (nI a)), (2, .int (nI b))] → va_P (dC, dI) classes [(h0, .inr (2, [.int (nI 0), .int (nI g), .ref qt, .ref qn, .ref qp, .ref qb, .ref qf, .ref qh, .ref qd])), (qt, .inl (cI, 1024, .inl t)), (qf, .inl (cI, 32, .inl z)), (qh, .inl (cZ, 1024, .inl (fun p => zI (h p))))] H → va_D (va_A [(h0, .inr (2, [.int th, .int (nI g), .ref qt, .ref qn, .ref qp, .ref qb, .ref qf, .ref qh, .ref qd])), (qt, .inl (cI, 1024, .inl t)), (qf, .inl (cI, 32, .inl fr)), (qh, .inl (cZ, 1024, .inl (fun p => zI (h p))))] sz) [(h0, .inr (2, [.int (nI 0), .int (nI g), .ref qt, .ref qn, .ref qp, .ref qb, .ref qf, .ref qh, .ref qd])), (qt, .inl (cI, 1024, .inl t)), (qf, .inl (cI, 32, .inl z)), (qh, .inl (cZ, 1024, .inl (fun p => zI (h p))))] → va_S (va_A [(h0, .inr (2, [.int th, .int (nI g), .ref qt, .ref qn, .ref qp, .ref qb, .ref qf, .ref qh, .ref qd])), (qt, .inl (cI, 1024, .inl t)), (qf, .inl (cI, 32, .inl fr)), (qh, .inl (cZ, 1024, .inl (fun p => zI (h p))))] sz) s.heap H locs → W p l e { frames := 1, cells := 0, slots := 0, locals := 20 } s m ([.ref h0, .int x, .int y]).toArray below meth c H locs 0 0 (MQ below (va_Qi (fun (r : Int32) (u : Int32 × (Nat → Int32)) => rk_diM t h x y r u) (fun u s9 => rk_at (dC, dI) [(cI, .int), (cZ, .boolean), (cJ, .long)] (va_A [(h0, .inr (2, [.int th, .int (nI g), .ref qt, .ref qn, .ref qp, .ref qb, .ref qf, .ref qh, .ref qd])), (qt, .inl (cI, 1024, .inl t)), (qf, .inl (cI, 32, .inl fr)), (qh, .inl (cZ, 1024, .inl (fun p => zI (h p))))] sz) [(h0, .inr (2, [.int (u.1), .int (nI g), .ref qt, .ref qn, .ref qp, .ref qb, .ref qf, .ref qh, .ref qd])), (qt, .inl (cI, 1024, .inl t)), (qf, .inl (cI, 32, .inl u.2)), (qh, .inl (cZ, 1024, .inl (fun p => zI (h p))))] s9) (va_A [(h0, .inr (2, [.int th, .int (nI g), .ref qt, .ref qn, .ref qp, .ref qb, .ref qf, .ref qh, .ref qd])), (qt, .inl (cI, 1024, .inl t)), (qf, .inl (cI, 32, .inl fr)), (qh, .inl (cZ, 1024, .inl (fun p => zI (h p))))] sz)) ([.ref h0, .int x, .int y]).toArray s 0 0 (va_A [(h0, .inr (2, [.int th, .int (nI g), .ref qt, .ref qn, .ref qp, .ref qb, .ref qf, .ref qh, .ref qd])), (qt, .inl (cI, 1024, .inl t)), (qf, .inl (cI, 32, .inl fr)), (qh, .inl (cZ, 1024, .inl (fun p => zI (h p))))] sz)) (F0 m 52 ls []) := by
            intro kf1
            induction kf1 with
            | zero => intro i hk1 hi z hz0; exact absurd hk1 (by omega)
            | succ kf1 ih1 =>
              intro i hk1 hi z hz0 ls H locs hl hP hD hS
              refine lv_iload_n hx hb d_M_distance_52 rfl (lv_at hl 0 rfl) ?_
              refine lv_bipush (v := nI 32) hx hb d_M_distance_53 (by decide) ?_
              refine lv_icmp_ge (tgt := 89) hx hb d_M_distance_55 (by decide) (fun hc4 => ?_) (fun hc4 => ?_)
              · have hc4 := (nI_leI (by omega) (by omega)).mp hc4
                have hz0 : ∀ j, j < 32 → z j = nI (rk_d (fun p => decide (0 < t p)) a 0 j) := fun j hj => hz0 j (by omega)
                refine lv_iconst (v := nI 1) hx hb d_M_distance_89 (by decide) ?_
                refine lv_istore_n (lv' := [(3, .int (nI 1)), (0, .ref h0), (1, .int (nI a)), (2, .int (nI b))]) hx hb d_M_distance_90 rfl hl (by decide) rfl (fun ls hl => ?_)
                have lpo : ∀ (kfo : Nat) (n : Nat), K - n < kfo → n ≤ K → ∀ z : Nat → Int32, (∀ j, j < 32 → z j = nI (rk_d (fun p => decide (0 < t p)) a n j)) → ∀ (ls : Array Slot) (H : Heap) (locs : List Loc), lv_has ls 6 [(3, .int (nI (n + 1))), (0, .ref h0), (1, .int (nI a)), (2, .int (nI b))] → va_P (dC, dI) classes [(h0, .inr (2, [.int (nI 0), .int (nI g), .ref qt, .ref qn, .ref qp, .ref qb, .ref qf, .ref qh, .ref qd])), (qt, .inl (cI, 1024, .inl t)), (qf, .inl (cI, 32, .inl z)), (qh, .inl (cZ, 1024, .inl (fun p => zI (h p))))] H → va_D (va_A [(h0, .inr (2, [.int th, .int (nI g), .ref qt, .ref qn, .ref qp, .ref qb, .ref qf, .ref qh, .ref qd])), (qt, .inl (cI, 1024, .inl t)), (qf, .inl (cI, 32, .inl fr)), (qh, .inl (cZ, 1024, .inl (fun p => zI (h p))))] sz) [(h0, .inr (2, [.int (nI 0), .int (nI g), .ref qt, .ref qn, .ref qp, .ref qb, .ref qf, .ref qh, .ref qd])), (qt, .inl (cI, 1024, .inl t)), (qf, .inl (cI, 32, .inl z)), (qh, .inl (cZ, 1024, .inl (fun p => zI (h p))))] → va_S (va_A [(h0, .inr (2, [.int th, .int (nI g), .ref qt, .ref qn, .ref qp, .ref qb, .ref qf, .ref qh, .ref qd])), (qt, .inl (cI, 1024, .inl t)), (qf, .inl (cI, 32, .inl fr)), (qh, .inl (cZ, 1024, .inl (fun p => zI (h p))))] sz) s.heap H locs → W p l e { frames := 1, cells := 0, slots := 0, locals := 20 } s m ([.ref h0, .int x, .int y]).toArray below meth c H locs 0 0 (MQ below (va_Qi (fun (r : Int32) (u : Int32 × (Nat → Int32)) => rk_diM t h x y r u) (fun u s9 => rk_at (dC, dI) [(cI, .int), (cZ, .boolean), (cJ, .long)] (va_A [(h0, .inr (2, [.int th, .int (nI g), .ref qt, .ref qn, .ref qp, .ref qb, .ref qf, .ref qh, .ref qd])), (qt, .inl (cI, 1024, .inl t)), (qf, .inl (cI, 32, .inl fr)), (qh, .inl (cZ, 1024, .inl (fun p => zI (h p))))] sz) [(h0, .inr (2, [.int (u.1), .int (nI g), .ref qt, .ref qn, .ref qp, .ref qb, .ref qf, .ref qh, .ref qd])), (qt, .inl (cI, 1024, .inl t)), (qf, .inl (cI, 32, .inl u.2)), (qh, .inl (cZ, 1024, .inl (fun p => zI (h p))))] s9) (va_A [(h0, .inr (2, [.int th, .int (nI g), .ref qt, .ref qn, .ref qp, .ref qb, .ref qf, .ref qh, .ref qd])), (qt, .inl (cI, 1024, .inl t)), (qf, .inl (cI, 32, .inl fr)), (qh, .inl (cZ, 1024, .inl (fun p => zI (h p))))] sz)) ([.ref h0, .int x, .int y]).toArray s 0 0 (va_A [(h0, .inr (2, [.int th, .int (nI g), .ref qt, .ref qn, .ref qp, .ref qb, .ref qf, .ref qh, .ref qd])), (qt, .inl (cI, 1024, .inl t)), (qf, .inl (cI, 32, .inl fr)), (qh, .inl (cZ, 1024, .inl (fun p => zI (h p))))] sz)) (F0 m 91 ls []) := by
                  intro kfo
                  induction kfo with
                  | zero => intro n hko hnn z hz0; exact absurd hko (by omega)
                  | succ kfo iho =>
                    intro n hko hnn z hz0 ls H locs hl hP hD hS
                    have hdl := rk_d_le (fun p => decide (0 < t p)) a n
                    refine lv_aload_n hx hb d_M_distance_91 rfl (lv_at hl 1 rfl) ?_
                    refine va_get (D := (dC, dI)) (ci := 2) (v := .ref qf) (C := R_M) (T := F_M) (N := 9) hx hb htw u_M hown hK hP 0 rfl rfl 6 (by decide) (htw _ l_M_22) (fun _ h9 => h9) rfl d_M_distance_92 ?_
                    refine lv_iload_n hx hb d_M_distance_95 rfl (lv_at hl 3 rfl) ?_
                    refine va_iald hx hb hK hP 2 0 rfl rfl (vp_in_nI (n := b) (show b < 32 by omega) (by decide)) d_M_distance_96 ?_
                    refine rk_top (y := z b) (congrArg z (nI_clamp (show b < 2 ^ 31 by omega))) ?_
                    refine rk_top (y := nI (rk_d (fun p => decide (0 < t p)) a n b)) (hz0 b hb32) ?_
                    refine lv_if_ne (tgt := 188) hx hb d_M_distance_97 (by decide) (fun hc6 => ?_) (fun hc6 => ?_)
                    · have hnz : rk_d (fun p => decide (0 < t p)) a n b ≠ 0 := fun z9 => hc6 (by rw [z9]; rfl)
                      have hnw : rk_w (fun p => decide (0 < t p)) a n b = true := by cases h9 : rk_w (fun p => decide (0 < t p)) a n b; exact absurd (rk_d_0.mpr h9) hnz; rfl
                      have hnK : n = K := by rcases Nat.lt_or_ge n K with z9 | z9; rw [hKn n z9] at hnw; cases hnw; omega
                      refine lv_aload_n hx hb d_M_distance_188 rfl (lv_at hl 1 rfl) ?_
                      refine va_get (D := (dC, dI)) (ci := 2) (v := .ref qf) (C := R_M) (T := F_M) (N := 9) hx hb htw u_M hown hK hP 0 rfl rfl 6 (by decide) (htw _ l_M_22) (fun _ h9 => h9) rfl d_M_distance_189 ?_
                      refine lv_iload_n hx hb d_M_distance_192 rfl (lv_at hl 3 rfl) ?_
                      refine va_iald hx hb hK hP 2 0 rfl rfl (vp_in_nI (n := b) (show b < 32 by omega) (by decide)) d_M_distance_193 ?_
                      refine rk_top (y := z b) (congrArg z (nI_clamp (show b < 2 ^ 31 by omega))) ?_
                      refine rk_top (y := nI (n + 1)) (by rw [hz0 b hb32, rk_d_new hnw (fun j hj => hKn j (by omega))]) ?_
                      exact rk_iret ((nI 0, z)) hx hb hr hlocks (Or.inr (Or.inr ⟨a, b, n, ha, hb32, hxa, hyb, by omega, hnw, fun j hj => hKn j (by omega), rfl, rfl⟩)) rfl hP hK hD hS d_M_distance_194
                    · have hnb : rk_d (fun p => decide (0 < t p)) a n b = 0 := rk_n0 (by have := hdl b; omega) hc6
                      have hnK : n < K := by rcases Nat.lt_or_ge n K with z9 | z9; exact z9; have h9 := rk_w_mono z9 hKb; rw [rk_d_0.mp hnb] at h9; cases h9
                      refine lv_iconst (v := nI 0) hx hb d_M_distance_100 (by decide) ?_
                      refine lv_istore (lv' := [(4, .int (nI 0)), (3, .int (nI (n + 1))), (0, .ref h0), (1, .int (nI a)), (2, .int (nI b))]) hx hb d_M_distance_101 hl (by decide) rfl (fun ls hl => ?_)
                      have lpc : ∀ (kfc : Nat) (i : Nat), 32 - i < kfc → i ≤ 32 → ∀ fy : Nat → Int32, (∀ j, j < 32 → fy j = nI (rk_q (fun p => decide (0 < t p)) a n i j)) → ∀ (ls : Array Slot) (H : Heap) (locs : List Loc), lv_has ls 6 [(4, .int (nI i)), (3, .int (nI (n + 1))), (0, .ref h0), (1, .int (nI a)), (2, .int (nI b))] → va_P (dC, dI) classes [(h0, .inr (2, [.int (nI 0), .int (nI g), .ref qt, .ref qn, .ref qp, .ref qb, .ref qf, .ref qh, .ref qd])), (qt, .inl (cI, 1024, .inl t)), (qf, .inl (cI, 32, .inl fy)), (qh, .inl (cZ, 1024, .inl (fun p => zI (h p))))] H → va_D (va_A [(h0, .inr (2, [.int th, .int (nI g), .ref qt, .ref qn, .ref qp, .ref qb, .ref qf, .ref qh, .ref qd])), (qt, .inl (cI, 1024, .inl t)), (qf, .inl (cI, 32, .inl fr)), (qh, .inl (cZ, 1024, .inl (fun p => zI (h p))))] sz) [(h0, .inr (2, [.int (nI 0), .int (nI g), .ref qt, .ref qn, .ref qp, .ref qb, .ref qf, .ref qh, .ref qd])), (qt, .inl (cI, 1024, .inl t)), (qf, .inl (cI, 32, .inl fy)), (qh, .inl (cZ, 1024, .inl (fun p => zI (h p))))] → va_S (va_A [(h0, .inr (2, [.int th, .int (nI g), .ref qt, .ref qn, .ref qp, .ref qb, .ref qf, .ref qh, .ref qd])), (qt, .inl (cI, 1024, .inl t)), (qf, .inl (cI, 32, .inl fr)), (qh, .inl (cZ, 1024, .inl (fun p => zI (h p))))] sz) s.heap H locs → W p l e { frames := 1, cells := 0, slots := 0, locals := 20 } s m ([.ref h0, .int x, .int y]).toArray below meth c H locs 0 0 (MQ below (va_Qi (fun (r : Int32) (u : Int32 × (Nat → Int32)) => rk_diM t h x y r u) (fun u s9 => rk_at (dC, dI) [(cI, .int), (cZ, .boolean), (cJ, .long)] (va_A [(h0, .inr (2, [.int th, .int (nI g), .ref qt, .ref qn, .ref qp, .ref qb, .ref qf, .ref qh, .ref qd])), (qt, .inl (cI, 1024, .inl t)), (qf, .inl (cI, 32, .inl fr)), (qh, .inl (cZ, 1024, .inl (fun p => zI (h p))))] sz) [(h0, .inr (2, [.int (u.1), .int (nI g), .ref qt, .ref qn, .ref qp, .ref qb, .ref qf, .ref qh, .ref qd])), (qt, .inl (cI, 1024, .inl t)), (qf, .inl (cI, 32, .inl u.2)), (qh, .inl (cZ, 1024, .inl (fun p => zI (h p))))] s9) (va_A [(h0, .inr (2, [.int th, .int (nI g), .ref qt, .ref qn, .ref qp, .ref qb, .ref qf, .ref qh, .ref qd])), (qt, .inl (cI, 1024, .inl t)), (qf, .inl (cI, 32, .inl fr)), (qh, .inl (cZ, 1024, .inl (fun p => zI (h p))))] sz)) ([.ref h0, .int x, .int y]).toArray s 0 0 (va_A [(h0, .inr (2, [.int th, .int (nI g), .ref qt, .ref qn, .ref qp, .ref qb, .ref qf, .ref qh, .ref qd])), (qt, .inl (cI, 1024, .inl t)), (qf, .inl (cI, 32, .inl fr)), (qh, .inl (cZ, 1024, .inl (fun p => zI (h p))))] sz)) (F0 m 103 ls []) := by
                        intro kfc
                        induction kfc with
                        | zero => intro i hkc hii fy hy0; exact absurd hkc (by omega)
                        | succ kfc ihc =>
                          intro i hkc hii fy hy0 ls H locs hl hP hD hS
                          refine lv_iload hx hb d_M_distance_103 (lv_at hl 0 rfl) ?_
                          refine lv_bipush (v := nI 32) hx hb d_M_distance_105 (by decide) ?_
                          refine lv_icmp_ge (tgt := 182) hx hb d_M_distance_107 (by decide) (fun hc7 => ?_) (fun hc7 => ?_)
                          · have hc7 := (nI_leI (by omega) (by omega)).mp hc7
                            have hl := lv_sub (l' := [(3, .int (nI (n + 1))), (0, .ref h0), (1, .int (nI a)), (2, .int (nI b))]) hl [1, 2, 3, 4] rfl
                            refine lv_iinc (k := 0) (v := nI (n + 1 + 1)) (lv' := [(3, .int (nI (n + 1 + 1))), (0, .ref h0), (1, .int (nI a)), (2, .int (nI b))]) hx hb d_M_distance_182 hl rfl (nI_1 (n + 1)) (by decide) rfl (fun ls hl => ?_)
                            refine lv_goto (tgt := 91) hx hb d_M_distance_185 (by decide) ?_
                            exact iho (n + 1) (by omega) (by omega) fy (fun j hj => by rw [hy0 j hj, show i = 32 by omega, rk_q_32 hj]) ls H locs hl hP hD hS
                          · have hc7 := rk_gt (by omega) (by omega) hc7
                            have hqi := rk_q_le (fun p => decide (0 < t p)) a n i i
                            refine lv_aload_n hx hb d_M_distance_110 rfl (lv_at hl 2 rfl) ?_
                            refine va_get (D := (dC, dI)) (ci := 2) (v := .ref qf) (C := R_M) (T := F_M) (N := 9) hx hb htw u_M hown hK hP 0 rfl rfl 6 (by decide) (htw _ l_M_22) (fun _ h9 => h9) rfl d_M_distance_111 ?_
                            refine lv_iload hx hb d_M_distance_114 (lv_at hl 0 rfl) ?_
                            refine va_iald hx hb hK hP 2 0 rfl rfl (vp_in_nI (n := i) (show i < 32 by omega) (by decide)) d_M_distance_116 ?_
                            refine rk_top (y := fy i) (congrArg fy (nI_clamp (show i < 2 ^ 31 by omega))) ?_
                            refine rk_top (y := nI (rk_q (fun p => decide (0 < t p)) a n i i)) (hy0 i (by omega)) ?_
                            refine lv_iload_n hx hb d_M_distance_117 rfl (lv_at hl 1 rfl) ?_
                            refine lv_icmp_eq (tgt := 124) hx hb d_M_distance_118 (by decide) (fun hc8 => ?_) (fun hc8 => ?_)
                            · have hc8 := rk_q_eq.mp ((nI_eq (by omega) (by omega)).mp hc8)
                              refine lv_iconst (v := nI 0) hx hb d_M_distance_124 (by decide) ?_
                              refine lv_istore (lv' := [(5, .int (nI 0)), (4, .int (nI i)), (3, .int (nI (n + 1))), (0, .ref h0), (1, .int (nI a)), (2, .int (nI b))]) hx hb d_M_distance_125 hl (by decide) rfl (fun ls hl => ?_)
                              have lpd : ∀ (kfd : Nat) (j : Nat), 32 - j < kfd → j ≤ 32 → ∀ v : Nat → Int32, (∀ j9, j9 < 32 → v j9 = nI (if j9 < j then rk_q (fun p => decide (0 < t p)) a n (i + 1) j9 else rk_q (fun p => decide (0 < t p)) a n i j9)) → ∀ (ls : Array Slot) (H : Heap) (locs : List Loc), lv_has ls 6 [(5, .int (nI j)), (4, .int (nI i)), (3, .int (nI (n + 1))), (0, .ref h0), (1, .int (nI a)), (2, .int (nI b))] → va_P (dC, dI) classes [(h0, .inr (2, [.int (nI 0), .int (nI g), .ref qt, .ref qn, .ref qp, .ref qb, .ref qf, .ref qh, .ref qd])), (qt, .inl (cI, 1024, .inl t)), (qf, .inl (cI, 32, .inl v)), (qh, .inl (cZ, 1024, .inl (fun p => zI (h p))))] H → va_D (va_A [(h0, .inr (2, [.int th, .int (nI g), .ref qt, .ref qn, .ref qp, .ref qb, .ref qf, .ref qh, .ref qd])), (qt, .inl (cI, 1024, .inl t)), (qf, .inl (cI, 32, .inl fr)), (qh, .inl (cZ, 1024, .inl (fun p => zI (h p))))] sz) [(h0, .inr (2, [.int (nI 0), .int (nI g), .ref qt, .ref qn, .ref qp, .ref qb, .ref qf, .ref qh, .ref qd])), (qt, .inl (cI, 1024, .inl t)), (qf, .inl (cI, 32, .inl v)), (qh, .inl (cZ, 1024, .inl (fun p => zI (h p))))] → va_S (va_A [(h0, .inr (2, [.int th, .int (nI g), .ref qt, .ref qn, .ref qp, .ref qb, .ref qf, .ref qh, .ref qd])), (qt, .inl (cI, 1024, .inl t)), (qf, .inl (cI, 32, .inl fr)), (qh, .inl (cZ, 1024, .inl (fun p => zI (h p))))] sz) s.heap H locs → W p l e { frames := 1, cells := 0, slots := 0, locals := 20 } s m ([.ref h0, .int x, .int y]).toArray below meth c H locs 0 0 (MQ below (va_Qi (fun (r : Int32) (u : Int32 × (Nat → Int32)) => rk_diM t h x y r u) (fun u s9 => rk_at (dC, dI) [(cI, .int), (cZ, .boolean), (cJ, .long)] (va_A [(h0, .inr (2, [.int th, .int (nI g), .ref qt, .ref qn, .ref qp, .ref qb, .ref qf, .ref qh, .ref qd])), (qt, .inl (cI, 1024, .inl t)), (qf, .inl (cI, 32, .inl fr)), (qh, .inl (cZ, 1024, .inl (fun p => zI (h p))))] sz) [(h0, .inr (2, [.int (u.1), .int (nI g), .ref qt, .ref qn, .ref qp, .ref qb, .ref qf, .ref qh, .ref qd])), (qt, .inl (cI, 1024, .inl t)), (qf, .inl (cI, 32, .inl u.2)), (qh, .inl (cZ, 1024, .inl (fun p => zI (h p))))] s9) (va_A [(h0, .inr (2, [.int th, .int (nI g), .ref qt, .ref qn, .ref qp, .ref qb, .ref qf, .ref qh, .ref qd])), (qt, .inl (cI, 1024, .inl t)), (qf, .inl (cI, 32, .inl fr)), (qh, .inl (cZ, 1024, .inl (fun p => zI (h p))))] sz)) ([.ref h0, .int x, .int y]).toArray s 0 0 (va_A [(h0, .inr (2, [.int th, .int (nI g), .ref qt, .ref qn, .ref qp, .ref qb, .ref qf, .ref qh, .ref qd])), (qt, .inl (cI, 1024, .inl t)), (qf, .inl (cI, 32, .inl fr)), (qh, .inl (cZ, 1024, .inl (fun p => zI (h p))))] sz)) (F0 m 127 ls []) := by
                                intro kfd
                                induction kfd with
                                | zero => intro j hkd hjj v hv0; exact absurd hkd (by omega)
                                | succ kfd ihd =>
                                  intro j hkd hjj v hv0 ls H locs hl hP hD hS
                                  refine lv_iload hx hb d_M_distance_127 (lv_at hl 0 rfl) ?_
                                  refine lv_bipush (v := nI 32) hx hb d_M_distance_129 (by decide) ?_
                                  refine lv_icmp_ge (tgt := 176) hx hb d_M_distance_131 (by decide) (fun hc9 => ?_) (fun hc9 => ?_)
                                  · have hc9 := (nI_leI (by omega) (by omega)).mp hc9
                                    have hl := lv_sub (l' := [(4, .int (nI i)), (3, .int (nI (n + 1))), (0, .ref h0), (1, .int (nI a)), (2, .int (nI b))]) hl [1, 2, 3, 4, 5] rfl
                                    refine lv_iinc (k := 0) (v := nI (i + 1)) (lv' := [(4, .int (nI (i + 1))), (3, .int (nI (n + 1))), (0, .ref h0), (1, .int (nI a)), (2, .int (nI b))]) hx hb d_M_distance_176 hl rfl (nI_1 i) (by decide) rfl (fun ls hl => ?_)
                                    refine lv_goto (tgt := 103) hx hb d_M_distance_179 (by decide) ?_
                                    exact ihc (i + 1) (by omega) (by omega) v (fun j9 hj9 => by rw [hv0 j9 hj9, if_pos (by omega)]) ls H locs hl hP hD hS
                                  · have hc9 := rk_gt (by omega) (by omega) hc9
                                    have hqj := rk_q_le (fun p => decide (0 < t p)) a n i j
                                    refine lv_aload_n hx hb d_M_distance_134 rfl (lv_at hl 3 rfl) ?_
                                    refine va_get (D := (dC, dI)) (ci := 2) (v := .ref qf) (C := R_M) (T := F_M) (N := 9) hx hb htw u_M hown hK hP 0 rfl rfl 6 (by decide) (htw _ l_M_22) (fun _ h9 => h9) rfl d_M_distance_135 ?_
                                    refine lv_iload hx hb d_M_distance_138 (lv_at hl 0 rfl) ?_
                                    refine va_iald hx hb hK hP 2 0 rfl rfl (vp_in_nI (n := j) (show j < 32 by omega) (by decide)) d_M_distance_140 ?_
                                    refine rk_top (y := v j) (congrArg v (nI_clamp (show j < 2 ^ 31 by omega))) ?_
                                    refine rk_top (y := nI (rk_q (fun p => decide (0 < t p)) a n i j)) (by rw [hv0 j (by omega), if_neg (by omega)]) ?_
                                    refine lv_if_ne (tgt := 170) hx hb d_M_distance_141 (by decide) (fun hd4 => ?_) (fun hd4 => ?_)
                                    · refine lv_iinc (k := 0) (v := nI (j + 1)) (lv' := [(5, .int (nI (j + 1))), (4, .int (nI i)), (3, .int (nI (n + 1))), (0, .ref h0), (1, .int (nI a)), (2, .int (nI b))]) hx hb d_M_distance_170 hl rfl (nI_1 j) (by decide) rfl (fun ls hl => ?_)
                                      refine lv_goto (tgt := 127) hx hb d_M_distance_173 (by decide) ?_
                                      exact ihd (j + 1) (by omega) (by omega) v (rk_q_keep hv0 (rk_q_old (fun z9 => hd4 (by rw [z9]; rfl)))) ls H locs hl hP hD hS
                                    · have hd4 : rk_q (fun p => decide (0 < t p)) a n i j = 0 := rk_n0 (by omega) hd4
                                      refine lv_aload_n hx hb d_M_distance_144 rfl (lv_at hl 3 rfl) ?_
                                      refine va_get (D := (dC, dI)) (ci := 2) (v := .ref qt) (C := R_M) (T := F_M) (N := 9) hx hb htw u_M hown hK hP 0 rfl rfl 2 (by decide) (htw _ l_M_9) (fun _ h9 => h9) rfl d_M_distance_145 ?_
                                      refine lv_bipush (v := nI 32) hx hb d_M_distance_148 (by decide) ?_
                                      refine lv_iload hx hb d_M_distance_150 (lv_at hl 1 rfl) ?_
                                      refine lv_imul hx hb d_M_distance_152 ?_
                                      refine rk_top (y := nI (32 * i)) (pk_mul 32 i) ?_
                                      refine lv_iload hx hb d_M_distance_153 (lv_at hl 0 rfl) ?_
                                      refine lv_iadd hx hb d_M_distance_155 ?_
                                      refine rk_top (y := nI (32 * i + j)) (nI_add (32 * i) j) ?_
                                      refine va_iald hx hb hK hP 1 0 rfl rfl (vp_in_nI (n := 32 * i + j) (show 32 * i + j < 1024 by omega) (by decide)) d_M_distance_156 ?_
                                      refine rk_top (y := t (32 * i + j)) (congrArg t (nI_clamp (show 32 * i + j < 2 ^ 31 by omega))) ?_
                                      refine lv_if_le (tgt := 170) hx hb d_M_distance_157 (by decide) (fun hd5 => ?_) (fun hd5 => ?_)
                                      · refine lv_iinc (k := 0) (v := nI (j + 1)) (lv' := [(5, .int (nI (j + 1))), (4, .int (nI i)), (3, .int (nI (n + 1))), (0, .ref h0), (1, .int (nI a)), (2, .int (nI b))]) hx hb d_M_distance_170 hl rfl (nI_1 j) (by decide) rfl (fun ls hl => ?_)
                                        refine lv_goto (tgt := 127) hx hb d_M_distance_173 (by decide) ?_
                                        exact ihd (j + 1) (by omega) (by omega) v (rk_q_keep hv0 (rk_q_no (decide_eq_false (Int32.not_lt.mpr hd5)))) ls H locs hl hP hD hS
                                      · refine lv_aload_n hx hb d_M_distance_160 rfl (lv_at hl 3 rfl) ?_
                                        refine va_get (D := (dC, dI)) (ci := 2) (v := .ref qf) (C := R_M) (T := F_M) (N := 9) hx hb htw u_M hown hK hP 0 rfl rfl 6 (by decide) (htw _ l_M_22) (fun _ h9 => h9) rfl d_M_distance_161 ?_
                                        refine lv_iload hx hb d_M_distance_164 (lv_at hl 0 rfl) ?_
                                        refine lv_iload_n hx hb d_M_distance_166 rfl (lv_at hl 2 rfl) ?_
                                        refine lv_iconst (v := nI 1) hx hb d_M_distance_167 (by decide) ?_
                                        refine lv_iadd hx hb d_M_distance_168 ?_
                                        refine rk_top (y := nI (n + 1 + 1)) (nI_add (n + 1) 1) ?_
                                        refine va_iast hx hb hK hP hD hS 2 0 rfl rfl (vp_in_nI (n := j) (show j < 32 by omega) (by decide)) d_M_distance_169 (fun H locs hP hD hS => ?_)
                                        rw [nI_clamp (show j < 2 ^ 31 by omega)] at hP hD
                                        have hP : va_P (dC, dI) classes [(h0, .inr (2, [.int (nI 0), .int (nI g), .ref qt, .ref qn, .ref qp, .ref qb, .ref qf, .ref qh, .ref qd])), (qt, .inl (cI, 1024, .inl t)), (qf, .inl (cI, 32, .inl (upd v j (nI (n + 1 + 1))))), (qh, .inl (cZ, 1024, .inl (fun p => zI (h p))))] H := hP
                                        have hD : va_D _ [(h0, .inr (2, [.int (nI 0), .int (nI g), .ref qt, .ref qn, .ref qp, .ref qb, .ref qf, .ref qh, .ref qd])), (qt, .inl (cI, 1024, .inl t)), (qf, .inl (cI, 32, .inl (upd v j (nI (n + 1 + 1))))), (qh, .inl (cZ, 1024, .inl (fun p => zI (h p))))] := hD
                                        refine lv_iinc (k := 0) (v := nI (j + 1)) (lv' := [(5, .int (nI (j + 1))), (4, .int (nI i)), (3, .int (nI (n + 1))), (0, .ref h0), (1, .int (nI a)), (2, .int (nI b))]) hx hb d_M_distance_170 hl rfl (nI_1 j) (by decide) rfl (fun ls hl => ?_)
                                        refine lv_goto (tgt := 127) hx hb d_M_distance_173 (by decide) ?_
                                        exact ihd (j + 1) (by omega) (by omega) _ (rk_q_put hv0 (by rw [rk_q_new hd4 hc8 (decide_eq_true (Int32.not_le.mp hd5))])) ls H locs hl hP hD hS
                              exact lpd 33 0 (by omega) (by omega) fy (fun j9 hj9 => by rw [if_neg (by omega)]; exact hy0 j9 hj9) ls _ _ hl hP hD hS
                            · have hc8 : ¬ rk_d (fun p => decide (0 < t p)) a n i = n + 1 := fun z9 => hc8 ((nI_eq (by omega) (by omega)).mpr (rk_q_eq.mpr z9))
                              refine lv_goto (tgt := 176) hx hb d_M_distance_121 (by decide) ?_
                              refine lv_iinc (k := 0) (v := nI (i + 1)) (lv' := [(4, .int (nI (i + 1))), (3, .int (nI (n + 1))), (0, .ref h0), (1, .int (nI a)), (2, .int (nI b))]) hx hb d_M_distance_176 hl rfl (nI_1 i) (by decide) rfl (fun ls hl => ?_)
                              refine lv_goto (tgt := 103) hx hb d_M_distance_179 (by decide) ?_
                              exact ihc (i + 1) (by omega) (by omega) fy (fun j9 hj9 => by rw [hy0 j9 hj9, rk_q_skip hc8]) ls H locs hl hP hD hS
                      exact lpc 33 0 (by omega) (by omega) z (fun j hj => by rw [rk_q_0c]; exact hz0 j hj) ls _ _ hl hP hD hS
                exact lpo (K + 1) 0 (by omega) (by omega) z hz0 ls _ _ hl hP hD hS
              · have hc4 := rk_gt (by omega) (by omega) hc4
                refine lv_aload_n hx hb d_M_distance_58 rfl (lv_at hl 1 rfl) ?_
                refine va_get (D := (dC, dI)) (ci := 2) (v := .ref qf) (C := R_M) (T := F_M) (N := 9) hx hb htw u_M hown hK hP 0 rfl rfl 6 (by decide) (htw _ l_M_22) (fun _ h9 => h9) rfl d_M_distance_59 ?_
                refine lv_iload_n hx hb d_M_distance_62 rfl (lv_at hl 0 rfl) ?_
                refine lv_aload_n hx hb d_M_distance_63 rfl (lv_at hl 1 rfl) ?_
                refine va_get (D := (dC, dI)) (ci := 2) (v := .ref qt) (C := R_M) (T := F_M) (N := 9) hx hb htw u_M hown hK hP 0 rfl rfl 2 (by decide) (htw _ l_M_9) (fun _ h9 => h9) rfl d_M_distance_64 ?_
                refine lv_bipush (v := nI 32) hx hb d_M_distance_67 (by decide) ?_
                refine lv_iload_n hx hb d_M_distance_69 rfl (lv_at hl 2 rfl) ?_
                refine lv_imul hx hb d_M_distance_70 ?_
                refine rk_top (y := nI (32 * a)) (pk_mul 32 a) ?_
                refine lv_iload_n hx hb d_M_distance_71 rfl (lv_at hl 0 rfl) ?_
                refine lv_iadd hx hb d_M_distance_72 ?_
                refine rk_top (y := nI (32 * a + i)) (nI_add (32 * a) i) ?_
                refine va_iald hx hb hK hP 1 0 rfl rfl (vp_in_nI (n := 32 * a + i) (show 32 * a + i < 1024 by omega) (by decide)) d_M_distance_73 ?_
                refine rk_top (y := t (32 * a + i)) (congrArg t (nI_clamp (show 32 * a + i < 2 ^ 31 by omega))) ?_
                refine lv_if_le (tgt := 81) hx hb d_M_distance_74 (by decide) (fun hc5 => ?_) (fun hc5 => ?_)
                · refine lv_iconst (v := nI 0) hx hb d_M_distance_81 (by decide) ?_
                  refine rk_top (y := nI (rk_d (fun p => decide (0 < t p)) a 0 i)) (by show _ = nI (if decide (0 < t (32 * a + i)) = true then 1 else 0); rw [decide_eq_false (Int32.not_lt.mpr hc5)]; rfl) ?_
                  refine va_iast hx hb hK hP hD hS 2 0 rfl rfl (vp_in_nI (n := i) (show i < 32 by omega) (by decide)) d_M_distance_82 (fun H locs hP hD hS => ?_)
                  rw [nI_clamp (show i < 2 ^ 31 by omega)] at hP hD
                  have hP : va_P (dC, dI) classes [(h0, .inr (2, [.int (nI 0), .int (nI g), .ref qt, .ref qn, .ref qp, .ref qb, .ref qf, .ref qh, .ref qd])), (qt, .inl (cI, 1024, .inl t)), (qf, .inl (cI, 32, .inl (upd z i (nI (rk_d (fun p => decide (0 < t p)) a 0 i))))), (qh, .inl (cZ, 1024, .inl (fun p => zI (h p))))] H := hP
                  have hD : va_D _ [(h0, .inr (2, [.int (nI 0), .int (nI g), .ref qt, .ref qn, .ref qp, .ref qb, .ref qf, .ref qh, .ref qd])), (qt, .inl (cI, 1024, .inl t)), (qf, .inl (cI, 32, .inl (upd z i (nI (rk_d (fun p => decide (0 < t p)) a 0 i))))), (qh, .inl (cZ, 1024, .inl (fun p => zI (h p))))] := hD
                  refine lv_iinc (k := 0) (v := nI (i + 1)) (lv' := [(3, .int (nI (i + 1))), (0, .ref h0), (1, .int (nI a)), (2, .int (nI b))]) hx hb d_M_distance_83 hl rfl (nI_1 i) (by decide) rfl (fun ls hl => ?_)
                  refine lv_goto (tgt := 52) hx hb d_M_distance_86 (by decide) ?_
                  exact ih1 (i + 1) (by omega) (by omega) _ (rk_upd_lt (g := fun j => nI (rk_d (fun p => decide (0 < t p)) a 0 j)) hz0 rfl) ls H locs hl hP hD hS
                · refine lv_iconst (v := nI 1) hx hb d_M_distance_77 (by decide) ?_
                  refine lv_goto (tgt := 82) hx hb d_M_distance_78 (by decide) ?_
                  refine rk_top (y := nI (rk_d (fun p => decide (0 < t p)) a 0 i)) (by show _ = nI (if decide (0 < t (32 * a + i)) = true then 1 else 0); rw [decide_eq_true (Int32.not_le.mp hc5)]; rfl) ?_
                  refine va_iast hx hb hK hP hD hS 2 0 rfl rfl (vp_in_nI (n := i) (show i < 32 by omega) (by decide)) d_M_distance_82 (fun H locs hP hD hS => ?_)
                  rw [nI_clamp (show i < 2 ^ 31 by omega)] at hP hD
                  have hP : va_P (dC, dI) classes [(h0, .inr (2, [.int (nI 0), .int (nI g), .ref qt, .ref qn, .ref qp, .ref qb, .ref qf, .ref qh, .ref qd])), (qt, .inl (cI, 1024, .inl t)), (qf, .inl (cI, 32, .inl (upd z i (nI (rk_d (fun p => decide (0 < t p)) a 0 i))))), (qh, .inl (cZ, 1024, .inl (fun p => zI (h p))))] H := hP
                  have hD : va_D _ [(h0, .inr (2, [.int (nI 0), .int (nI g), .ref qt, .ref qn, .ref qp, .ref qb, .ref qf, .ref qh, .ref qd])), (qt, .inl (cI, 1024, .inl t)), (qf, .inl (cI, 32, .inl (upd z i (nI (rk_d (fun p => decide (0 < t p)) a 0 i))))), (qh, .inl (cZ, 1024, .inl (fun p => zI (h p))))] := hD
                  refine lv_iinc (k := 0) (v := nI (i + 1)) (lv' := [(3, .int (nI (i + 1))), (0, .ref h0), (1, .int (nI a)), (2, .int (nI b))]) hx hb d_M_distance_83 hl rfl (nI_1 i) (by decide) rfl (fun ls hl => ?_)
                  refine lv_goto (tgt := 52) hx hb d_M_distance_86 (by decide) ?_
                  exact ih1 (i + 1) (by omega) (by omega) _ (rk_upd_lt (g := fun j => nI (rk_d (fun p => decide (0 < t p)) a 0 j)) hz0 rfl) ls H locs hl hP hD hS
          exact lp1 33 0 (by omega) (by omega) fr (fun j hj => by omega) ls _ _ hl hP hD hS
        · exact absurd (by decide : (nI 0 : Int32) ≤ 0) hd1
      · have hc3 := zI_0.mp hc3
        refine lv_iconst (v := nI 2) hx hb d_M_distance_33 (by decide) ?_
        refine lv_goto (tgt := 38) hx hb d_M_distance_34 (by decide) ?_
        refine va_put (D := (dC, dI)) (ci := 2) (v := .int (nI 2)) (ty := .int) (C := R_M) (T := F_M) (N := 9) hx hb htw u_M t_M t_M_ok n_M hown hK hP hD hS 0 rfl rfl 0 (by decide) (htw _ l_M_32) (fun _ h9 => h9) rfl (by decide +kernel) rfl rfl (Nat.le_of_ble_eq_true rfl) d_M_distance_38 (fun H locs hP hD hS => ?_)
        have hP : va_P (dC, dI) classes [(h0, .inr (2, [.int (nI 2), .int (nI g), .ref qt, .ref qn, .ref qp, .ref qb, .ref qf, .ref qh, .ref qd])), (qt, .inl (cI, 1024, .inl t)), (qf, .inl (cI, 32, .inl fr)), (qh, .inl (cZ, 1024, .inl (fun p => zI (h p))))] H := hP
        have hD : va_D _ [(h0, .inr (2, [.int (nI 2), .int (nI g), .ref qt, .ref qn, .ref qp, .ref qb, .ref qf, .ref qh, .ref qd])), (qt, .inl (cI, 1024, .inl t)), (qf, .inl (cI, 32, .inl fr)), (qh, .inl (cZ, 1024, .inl (fun p => zI (h p))))] := hD
        refine lv_aload_n hx hb d_M_distance_41 rfl (lv_at hl 0 rfl) ?_
        refine va_get (D := (dC, dI)) (ci := 2) (v := .int (nI 2)) (C := R_M) (T := F_M) (N := 9) hx hb htw u_M hown hK hP 0 rfl rfl 0 (by decide) (htw _ l_M_32) (fun _ h9 => h9) rfl d_M_distance_42 ?_
        refine lv_if_le (tgt := 50) hx hb d_M_distance_45 (by decide) (fun hd1 => ?_) (fun hd1 => ?_)
        · exact absurd hd1 (by decide)
        · refine lv_iconst (v := nI 0) hx hb d_M_distance_48 (by decide) ?_
          exact rk_iret ((nI 2, fr)) hx hb hr hlocks (Or.inr (Or.inl ⟨a, b, ha, hb32, hxa, hyb, hc3, rfl⟩)) rfl hP hK hD hS d_M_distance_49
    · have hv : (rk_v x && rk_v y) = false := by rw [zI_0.mp hc2]; exact Bool.and_false _
      refine lv_iconst (v := nI 1) hx hb d_M_distance_15 (by decide) ?_
      refine lv_goto (tgt := 38) hx hb d_M_distance_16 (by decide) ?_
      refine va_put (D := (dC, dI)) (ci := 2) (v := .int (nI 1)) (ty := .int) (C := R_M) (T := F_M) (N := 9) hx hb htw u_M t_M t_M_ok n_M hown hK hP hD hS 0 rfl rfl 0 (by decide) (htw _ l_M_32) (fun _ h9 => h9) rfl (by decide +kernel) rfl rfl (Nat.le_of_ble_eq_true rfl) d_M_distance_38 (fun H locs hP hD hS => ?_)
      have hP : va_P (dC, dI) classes [(h0, .inr (2, [.int (nI 1), .int (nI g), .ref qt, .ref qn, .ref qp, .ref qb, .ref qf, .ref qh, .ref qd])), (qt, .inl (cI, 1024, .inl t)), (qf, .inl (cI, 32, .inl fr)), (qh, .inl (cZ, 1024, .inl (fun p => zI (h p))))] H := hP
      have hD : va_D _ [(h0, .inr (2, [.int (nI 1), .int (nI g), .ref qt, .ref qn, .ref qp, .ref qb, .ref qf, .ref qh, .ref qd])), (qt, .inl (cI, 1024, .inl t)), (qf, .inl (cI, 32, .inl fr)), (qh, .inl (cZ, 1024, .inl (fun p => zI (h p))))] := hD
      refine lv_aload_n hx hb d_M_distance_41 rfl (lv_at hl 0 rfl) ?_
      refine va_get (D := (dC, dI)) (ci := 2) (v := .int (nI 1)) (C := R_M) (T := F_M) (N := 9) hx hb htw u_M hown hK hP 0 rfl rfl 0 (by decide) (htw _ l_M_32) (fun _ h9 => h9) rfl d_M_distance_42 ?_
      refine lv_if_le (tgt := 50) hx hb d_M_distance_45 (by decide) (fun hd1 => ?_) (fun hd1 => ?_)
      · exact absurd hd1 (by decide)
      · refine lv_iconst (v := nI 0) hx hb d_M_distance_48 (by decide) ?_
        exact rk_iret ((nI 1, fr)) hx hb hr hlocks (Or.inl ⟨hv, rfl⟩) rfl hP hK hD hS d_M_distance_49
end
section
set_option maxHeartbeats 4000000 in
set_option maxRecDepth 100000 in
theorem c_M_count (l : Launch) (dC : Nat → ClassId) (dI : Nat → Nat → Nat) (cI cZ cJ : ClassId) (sz : Nat) (h0 qt qn qp qb qf qh qd : Nat) (th : Int32) (g : Nat) (hg : g ≤ 60) (t : Nat → Int32) (h k : Nat → Bool) (x : Int32) : Met l y_M_count (.code y_M_count b_M_count 10 (some .int) :: WT) { frames := 1, cells := 0, slots := 0, locals := 23 } (va_Pc [.ref h0, .int x] (rk_pre (dC, dI) [(cI, .int), (cZ, .boolean), (cJ, .long)] sz [(h0, .inr (2, [.int th, .int (nI g), .ref qt, .ref qn, .ref qp, .ref qb, .ref qf, .ref qh, .ref qd])), (qt, .inl (cI, 1024, .inl t)), (qh, .inl (cZ, 1024, .inl (fun p => zI (h p)))), (qd, .inl (cZ, 1024, .inl (fun p => zI (k p))))])) (va_Qi (fun (r : Int32) (u : Unit) => r = rk_coF t h k g x) (fun _ s9 => rk_at (dC, dI) [(cI, .int), (cZ, .boolean), (cJ, .long)] (va_A [(h0, .inr (2, [.int th, .int (nI g), .ref qt, .ref qn, .ref qp, .ref qb, .ref qf, .ref qh, .ref qd])), (qt, .inl (cI, 1024, .inl t)), (qh, .inl (cZ, 1024, .inl (fun p => zI (h p)))), (qd, .inl (cZ, 1024, .inl (fun p => zI (k p))))] sz) [(h0, .inr (2, [.int (nI 0), .int (nI g), .ref qt, .ref qn, .ref qp, .ref qb, .ref qf, .ref qh, .ref qd])), (qt, .inl (cI, 1024, .inl t)), (qh, .inl (cZ, 1024, .inl (fun p => zI (h p)))), (qd, .inl (cZ, 1024, .inl (fun p => zI (k p))))] s9) (va_A [(h0, .inr (2, [.int th, .int (nI g), .ref qt, .ref qn, .ref qp, .ref qb, .ref qf, .ref qh, .ref qd])), (qt, .inl (cI, 1024, .inl t)), (qh, .inl (cZ, 1024, .inl (fun p => zI (h p)))), (qd, .inl (cZ, 1024, .inl (fun p => zI (k p))))] sz)) 0 0 (va_A [(h0, .inr (2, [.int th, .int (nI g), .ref qt, .ref qn, .ref qp, .ref qb, .ref qf, .ref qh, .ref qd])), (qt, .inl (cI, 1024, .inl t)), (qh, .inl (cZ, 1024, .inl (fun p => zI (h p)))), (qd, .inl (cZ, 1024, .inl (fun p => zI (k p))))] sz) := by
  refine rk_body (by decide) (Nat.le_of_ble_eq_true rfl) ?_
  intro p e s m below meth c hx hb hml hr htw hown hlocks hin hsz hP hK hD hA hS ls hl
  have hown : s.vm.findClass R_M = some m.cls := hown
  have hl : lv_has ls 10 [(0, .ref h0), (1, .int x)] := hl
  refine lv_aload_n hx hb d_M_count_0 rfl (lv_at hl 0 rfl) ?_
  refine lv_iconst (v := nI 0) hx hb d_M_count_1 (by decide) ?_
  refine va_put (D := (dC, dI)) (ci := 2) (v := .int (nI 0)) (ty := .int) (C := R_M) (T := F_M) (N := 9) hx hb htw u_M t_M t_M_ok n_M hown hK hP hD hS 0 rfl rfl 0 (by decide) (htw _ l_M_32) (fun _ h9 => h9) rfl (by decide +kernel) rfl rfl (Nat.le_of_ble_eq_true rfl) d_M_count_2 (fun H locs hP hD hS => ?_)
  have hP : va_P (dC, dI) classes [(h0, .inr (2, [.int (nI 0), .int (nI g), .ref qt, .ref qn, .ref qp, .ref qb, .ref qf, .ref qh, .ref qd])), (qt, .inl (cI, 1024, .inl t)), (qh, .inl (cZ, 1024, .inl (fun p => zI (h p)))), (qd, .inl (cZ, 1024, .inl (fun p => zI (k p))))] H := hP
  have hD : va_D _ [(h0, .inr (2, [.int (nI 0), .int (nI g), .ref qt, .ref qn, .ref qp, .ref qb, .ref qf, .ref qh, .ref qd])), (qt, .inl (cI, 1024, .inl t)), (qh, .inl (cZ, 1024, .inl (fun p => zI (h p)))), (qd, .inl (cZ, 1024, .inl (fun p => zI (k p))))] := hD
  refine lv_iconst (v := nI 0) hx hb d_M_count_5 (by decide) ?_
  refine lv_istore_n (lv' := [(2, .int (nI 0)), (0, .ref h0), (1, .int x)]) hx hb d_M_count_6 rfl hl (by decide) rfl (fun ls hl => ?_)
  refine lv_iconst (v := nI 0) hx hb d_M_count_7 (by decide) ?_
  refine lv_istore_n (lv' := [(3, .int (nI 0)), (2, .int (nI 0)), (0, .ref h0), (1, .int x)]) hx hb d_M_count_8 rfl hl (by decide) rfl (fun ls hl => ?_)
  refine lv_iconst (v := nI 0) hx hb d_M_count_9 (by decide) ?_
  refine lv_istore (lv' := [(4, .int (nI 0)), (3, .int (nI 0)), (2, .int (nI 0)), (0, .ref h0), (1, .int x)]) hx hb d_M_count_10 hl (by decide) rfl (fun ls hl => ?_)
  refine lv_iconst (v := nI 0) hx hb d_M_count_12 (by decide) ?_
  refine lv_istore (lv' := [(5, .int (nI 0)), (4, .int (nI 0)), (3, .int (nI 0)), (2, .int (nI 0)), (0, .ref h0), (1, .int x)]) hx hb d_M_count_13 hl (by decide) rfl (fun ls hl => ?_)
  refine lv_iconst (v := nI 0) hx hb d_M_count_15 (by decide) ?_
  refine lv_istore (lv' := [(6, .int (nI 0)), (5, .int (nI 0)), (4, .int (nI 0)), (3, .int (nI 0)), (2, .int (nI 0)), (0, .ref h0), (1, .int x)]) hx hb d_M_count_16 hl (by decide) rfl (fun ls hl => ?_)
  refine lv_iconst (v := nI 0) hx hb d_M_count_18 (by decide) ?_
  refine lv_istore (lv' := [(7, .int (nI 0)), (6, .int (nI 0)), (5, .int (nI 0)), (4, .int (nI 0)), (3, .int (nI 0)), (2, .int (nI 0)), (0, .ref h0), (1, .int x)]) hx hb d_M_count_19 hl (by decide) rfl (fun ls hl => ?_)
  have lp : ∀ (kf : Nat) (i : Nat), 1024 - i < kf → i ≤ 1024 → ∀ (ls : Array Slot) (H : Heap) (locs : List Loc), lv_has ls 10 [(7, .int (nI i)), (6, .int (nI 0)), (5, .int (nI 0)), (4, .int (nI (rk_c h i))), (3, .int (rk_t t i)), (2, .int (nI (rk_c (fun p => decide (0 < t p)) i))), (0, .ref h0), (1, .int x)] → va_P (dC, dI) classes [(h0, .inr (2, [.int (nI 0), .int (nI g), .ref qt, .ref qn, .ref qp, .ref qb, .ref qf, .ref qh, .ref qd])), (qt, .inl (cI, 1024, .inl t)), (qh, .inl (cZ, 1024, .inl (fun p => zI (h p)))), (qd, .inl (cZ, 1024, .inl (fun p => zI (k p))))] H → va_D (va_A [(h0, .inr (2, [.int th, .int (nI g), .ref qt, .ref qn, .ref qp, .ref qb, .ref qf, .ref qh, .ref qd])), (qt, .inl (cI, 1024, .inl t)), (qh, .inl (cZ, 1024, .inl (fun p => zI (h p)))), (qd, .inl (cZ, 1024, .inl (fun p => zI (k p))))] sz) [(h0, .inr (2, [.int (nI 0), .int (nI g), .ref qt, .ref qn, .ref qp, .ref qb, .ref qf, .ref qh, .ref qd])), (qt, .inl (cI, 1024, .inl t)), (qh, .inl (cZ, 1024, .inl (fun p => zI (h p)))), (qd, .inl (cZ, 1024, .inl (fun p => zI (k p))))] → va_S (va_A [(h0, .inr (2, [.int th, .int (nI g), .ref qt, .ref qn, .ref qp, .ref qb, .ref qf, .ref qh, .ref qd])), (qt, .inl (cI, 1024, .inl t)), (qh, .inl (cZ, 1024, .inl (fun p => zI (h p)))), (qd, .inl (cZ, 1024, .inl (fun p => zI (k p))))] sz) s.heap H locs → W p l e { frames := 1, cells := 0, slots := 0, locals := 23 } s m ([.ref h0, .int x]).toArray below meth c H locs 0 0 (MQ below (va_Qi (fun (r : Int32) (u : Unit) => r = rk_coF t h k g x) (fun _ s9 => rk_at (dC, dI) [(cI, .int), (cZ, .boolean), (cJ, .long)] (va_A [(h0, .inr (2, [.int th, .int (nI g), .ref qt, .ref qn, .ref qp, .ref qb, .ref qf, .ref qh, .ref qd])), (qt, .inl (cI, 1024, .inl t)), (qh, .inl (cZ, 1024, .inl (fun p => zI (h p)))), (qd, .inl (cZ, 1024, .inl (fun p => zI (k p))))] sz) [(h0, .inr (2, [.int (nI 0), .int (nI g), .ref qt, .ref qn, .ref qp, .ref qb, .ref qf, .ref qh, .ref qd])), (qt, .inl (cI, 1024, .inl t)), (qh, .inl (cZ, 1024, .inl (fun p => zI (h p)))), (qd, .inl (cZ, 1024, .inl (fun p => zI (k p))))] s9) (va_A [(h0, .inr (2, [.int th, .int (nI g), .ref qt, .ref qn, .ref qp, .ref qb, .ref qf, .ref qh, .ref qd])), (qt, .inl (cI, 1024, .inl t)), (qh, .inl (cZ, 1024, .inl (fun p => zI (h p)))), (qd, .inl (cZ, 1024, .inl (fun p => zI (k p))))] sz)) ([.ref h0, .int x]).toArray s 0 0 (va_A [(h0, .inr (2, [.int th, .int (nI g), .ref qt, .ref qn, .ref qp, .ref qb, .ref qf, .ref qh, .ref qd])), (qt, .inl (cI, 1024, .inl t)), (qh, .inl (cZ, 1024, .inl (fun p => zI (h p)))), (qd, .inl (cZ, 1024, .inl (fun p => zI (k p))))] sz)) (F0 m 21 ls []) := by
    intro kf
    induction kf with
    | zero => intro i hk hi; exact absurd hk (by omega)
    | succ kf ih =>
      intro i hk hi ls H locs hl hP hD hS
      refine lv_iload hx hb d_M_count_21 (lv_at hl 0 rfl) ?_
      refine lv_sipush (v := nI 1024) hx hb d_M_count_23 (by decide) ?_
      refine lv_icmp_ge (tgt := 71) hx hb d_M_count_26 (by decide) (fun hc => ?_) (fun hc => ?_)
      · have hc := (nI_leI (by omega) (by omega)).mp hc
        rw [show i = 1024 by omega] at hl
        have hl : lv_has ls 10 [(7, .int (nI 1024)), (6, .int (nI 0)), (5, .int (nI 0)), (4, .int (nI (rk_c h 1024))), (3, .int (rk_t t 1024)), (2, .int (nI (rk_c (fun p => decide (0 < t p)) 1024))), (0, .ref h0), (1, .int x)] := hl
        refine lv_iconst (v := nI 0) hx hb d_M_count_71 (by decide) ?_
        refine lv_istore (lv' := [(7, .int (nI 0)), (6, .int (nI 0)), (5, .int (nI 0)), (4, .int (nI (rk_c h 1024))), (3, .int (rk_t t 1024)), (2, .int (nI (rk_c (fun p => decide (0 < t p)) 1024))), (0, .ref h0), (1, .int x)]) hx hb d_M_count_72 hl (by decide) rfl (fun ls hl => ?_)
        have lp2 : ∀ (kf2 : Nat) (i : Nat), 32 - i < kf2 → i ≤ 32 → ∀ (ls : Array Slot) (H : Heap) (locs : List Loc), lv_has ls 10 [(7, .int (nI i)), (6, .int (nI (rk_c (fun a => h (32 * a + a) && !rk_any (fun b => h (32 * a + b) && h (32 * b + a)) a) i))), (5, .int (nI (rk_c (fun a => h (32 * a + a)) i))), (4, .int (nI (rk_c h 1024))), (3, .int (rk_t t 1024)), (2, .int (nI (rk_c (fun p => decide (0 < t p)) 1024))), (0, .ref h0), (1, .int x)] → va_P (dC, dI) classes [(h0, .inr (2, [.int (nI 0), .int (nI g), .ref qt, .ref qn, .ref qp, .ref qb, .ref qf, .ref qh, .ref qd])), (qt, .inl (cI, 1024, .inl t)), (qh, .inl (cZ, 1024, .inl (fun p => zI (h p)))), (qd, .inl (cZ, 1024, .inl (fun p => zI (k p))))] H → va_D (va_A [(h0, .inr (2, [.int th, .int (nI g), .ref qt, .ref qn, .ref qp, .ref qb, .ref qf, .ref qh, .ref qd])), (qt, .inl (cI, 1024, .inl t)), (qh, .inl (cZ, 1024, .inl (fun p => zI (h p)))), (qd, .inl (cZ, 1024, .inl (fun p => zI (k p))))] sz) [(h0, .inr (2, [.int (nI 0), .int (nI g), .ref qt, .ref qn, .ref qp, .ref qb, .ref qf, .ref qh, .ref qd])), (qt, .inl (cI, 1024, .inl t)), (qh, .inl (cZ, 1024, .inl (fun p => zI (h p)))), (qd, .inl (cZ, 1024, .inl (fun p => zI (k p))))] → va_S (va_A [(h0, .inr (2, [.int th, .int (nI g), .ref qt, .ref qn, .ref qp, .ref qb, .ref qf, .ref qh, .ref qd])), (qt, .inl (cI, 1024, .inl t)), (qh, .inl (cZ, 1024, .inl (fun p => zI (h p)))), (qd, .inl (cZ, 1024, .inl (fun p => zI (k p))))] sz) s.heap H locs → W p l e { frames := 1, cells := 0, slots := 0, locals := 23 } s m ([.ref h0, .int x]).toArray below meth c H locs 0 0 (MQ below (va_Qi (fun (r : Int32) (u : Unit) => r = rk_coF t h k g x) (fun _ s9 => rk_at (dC, dI) [(cI, .int), (cZ, .boolean), (cJ, .long)] (va_A [(h0, .inr (2, [.int th, .int (nI g), .ref qt, .ref qn, .ref qp, .ref qb, .ref qf, .ref qh, .ref qd])), (qt, .inl (cI, 1024, .inl t)), (qh, .inl (cZ, 1024, .inl (fun p => zI (h p)))), (qd, .inl (cZ, 1024, .inl (fun p => zI (k p))))] sz) [(h0, .inr (2, [.int (nI 0), .int (nI g), .ref qt, .ref qn, .ref qp, .ref qb, .ref qf, .ref qh, .ref qd])), (qt, .inl (cI, 1024, .inl t)), (qh, .inl (cZ, 1024, .inl (fun p => zI (h p)))), (qd, .inl (cZ, 1024, .inl (fun p => zI (k p))))] s9) (va_A [(h0, .inr (2, [.int th, .int (nI g), .ref qt, .ref qn, .ref qp, .ref qb, .ref qf, .ref qh, .ref qd])), (qt, .inl (cI, 1024, .inl t)), (qh, .inl (cZ, 1024, .inl (fun p => zI (h p)))), (qd, .inl (cZ, 1024, .inl (fun p => zI (k p))))] sz)) ([.ref h0, .int x]).toArray s 0 0 (va_A [(h0, .inr (2, [.int th, .int (nI g), .ref qt, .ref qn, .ref qp, .ref qb, .ref qf, .ref qh, .ref qd])), (qt, .inl (cI, 1024, .inl t)), (qh, .inl (cZ, 1024, .inl (fun p => zI (h p)))), (qd, .inl (cZ, 1024, .inl (fun p => zI (k p))))] sz)) (F0 m 74 ls []) := by
          intro kf2
          induction kf2 with
          | zero => intro i hk2 hi; exact absurd hk2 (by omega)
          | succ kf2 ih2 =>
            intro i hk2 hi ls H locs hl hP hD hS
            refine lv_iload hx hb d_M_count_74 (lv_at hl 0 rfl) ?_
            refine lv_bipush (v := nI 32) hx hb d_M_count_76 (by decide) ?_
            refine lv_icmp_ge (tgt := 171) hx hb d_M_count_78 (by decide) (fun hd => ?_) (fun hd => ?_)
            · have hd := (nI_leI (by omega) (by omega)).mp hd
              rw [show i = 32 by omega] at hl
              have hl : lv_has ls 10 [(7, .int (nI 32)), (6, .int (nI (rk_c (fun a => h (32 * a + a) && !rk_any (fun b => h (32 * a + b) && h (32 * b + a)) a) 32))), (5, .int (nI (rk_c (fun a => h (32 * a + a)) 32))), (4, .int (nI (rk_c h 1024))), (3, .int (rk_t t 1024)), (2, .int (nI (rk_c (fun p => decide (0 < t p)) 1024))), (0, .ref h0), (1, .int x)] := hl
              refine lv_iload_n hx hb d_M_count_171 rfl (lv_at hl 7 rfl) ?_
              rcases pk_ix x (n := 8) (by decide) with hneg | hbig | ⟨j, hj, rfl⟩
              · refine lv_tableOut (tgt := 250) hx hb d_M_count_172 (Or.inl (by have := Int32.lt_iff_toInt_lt.mp hneg; rw [Int32.toInt_zero] at this; exact this)) (by decide) ?_
                refine lv_iconst (v := -1) hx hb d_M_count_250 (by decide) ?_
                exact rk_iret (()) hx hb hr hlocks ((rk_coF_out (Or.inl hneg)).symm) rfl hP hK hD hS d_M_count_251
              · refine lv_tableOut (tgt := 250) hx hb d_M_count_172 (Or.inr (by have := Int32.le_iff_toInt_le.mp hbig; rw [nI_toInt (by decide)] at this; omega)) (by decide) ?_
                refine lv_iconst (v := -1) hx hb d_M_count_250 (by decide) ?_
                exact rk_iret (()) hx hb hr hlocks ((rk_coF_out (Or.inr hbig)).symm) rfl hP hK hD hS d_M_count_251
              · have hj8 : j = 0 ∨ j = 1 ∨ j = 2 ∨ j = 3 ∨ j = 4 ∨ j = 5 ∨ j = 6 ∨ j = 7 := by omega
                rcases hj8 with rfl | rfl | rfl | rfl | rfl | rfl | rfl | rfl
                · refine lv_tableIn (off := 48) (tgt := 220) hx hb d_M_count_172 (by decide) (by decide) rfl (by decide) ?_
                  refine lv_iload_n hx hb d_M_count_220 rfl (lv_at hl 5 rfl) ?_
                  exact rk_iret (()) hx hb hr hlocks ((rk_coF_in (t := t) (h := h) (k := k) (g := g) (j := 0) (by decide)).symm) rfl hP hK hD hS d_M_count_221
                · refine lv_tableIn (off := 50) (tgt := 222) hx hb d_M_count_172 (by decide) (by decide) rfl (by decide) ?_
                  refine lv_iload_n hx hb d_M_count_222 rfl (lv_at hl 4 rfl) ?_
                  exact rk_iret (()) hx hb hr hlocks ((rk_coF_in (t := t) (h := h) (k := k) (g := g) (j := 1) (by decide)).symm) rfl hP hK hD hS d_M_count_223
                · refine lv_tableIn (off := 52) (tgt := 224) hx hb d_M_count_172 (by decide) (by decide) rfl (by decide) ?_
                  refine lv_iload hx hb d_M_count_224 (lv_at hl 3 rfl) ?_
                  exact rk_iret (()) hx hb hr hlocks ((rk_coF_in (t := t) (h := h) (k := k) (g := g) (j := 2) (by decide)).symm) rfl hP hK hD hS d_M_count_226
                · refine lv_tableIn (off := 55) (tgt := 227) hx hb d_M_count_172 (by decide) (by decide) rfl (by decide) ?_
                  refine lv_aload_n hx hb d_M_count_227 rfl (lv_at hl 6 rfl) ?_
                  refine va_get (D := (dC, dI)) (ci := 2) (v := .int (nI g)) (C := R_M) (T := F_M) (N := 9) hx hb htw u_M hown hK hP 0 rfl rfl 1 (by decide) (htw _ l_M_40) (fun _ h9 => h9) rfl d_M_count_228 ?_
                  exact rk_iret (()) hx hb hr hlocks ((rk_coF_in (t := t) (h := h) (k := k) (g := g) (j := 3) (by decide)).symm) rfl hP hK hD hS d_M_count_231
                · refine lv_tableIn (off := 60) (tgt := 232) hx hb d_M_count_172 (by decide) (by decide) rfl (by decide) ?_
                  refine lv_aload_n hx hb d_M_count_232 rfl (lv_at hl 6 rfl) ?_
                  refine lv_iconst (v := zI true) hx hb d_M_count_233 (by decide) ?_
                  refine rk_backi (wc := [(h0, .inr (2, [.int (nI 0), .int (nI g), .ref qt, .ref qn, .ref qp, .ref qb, .ref qf, .ref qh, .ref qd])), (qh, .inl (cZ, 1024, .inl (fun p => zI (h p)))), (qd, .inl (cZ, 1024, .inl (fun p => zI (k p))))]) (wr := [(qt, .inl (cI, 1024, .inl t))]) (va_runV (As := [.int (zI true)]) (rest := []) ⟨hx, hb, hml, hown, htw⟩ (c_M_many l dC dI cI cZ cJ _ h0 qt qn qp qb qf qh qd (nI 0) g h k true) (rk_cwV 1 htw gc_M_count_234 (by decide +kernel) ⟨(Nat.le_of_ble_eq_true rfl), (Nat.le_of_ble_eq_true rfl)⟩) (⟨rk_blind, va_recv hK hP (ci := 2) rfl (q0 := 0) rfl, rk_give (rk_psub (isC := [0, 2, 3]) hP rfl) hK (hD.sub [0, 2, 3] rfl rfl)⟩) rfl rfl hl.1 rfl (lv_room (Nat.le_of_ble_eq_true rfl)) d_M_count_234 ⟨(Nat.le_of_ble_eq_true rfl), (Nat.le_of_ble_eq_true rfl)⟩) hP hD hS hA [0, 2, 3] [1] rfl rfl rfl (by decide) (fun x5 u5 H locs hp5 hP hD hS => ?_)
                  subst hp5
                  have hP : va_P (dC, dI) classes [(qt, .inl (cI, 1024, .inl t)), (h0, .inr (2, [.int (nI 0), .int (nI g), .ref qt, .ref qn, .ref qp, .ref qb, .ref qf, .ref qh, .ref qd])), (qh, .inl (cZ, 1024, .inl (fun p => zI (h p)))), (qd, .inl (cZ, 1024, .inl (fun p => zI (k p))))] H := hP
                  have hD : va_D _ [(qt, .inl (cI, 1024, .inl t)), (h0, .inr (2, [.int (nI 0), .int (nI g), .ref qt, .ref qn, .ref qp, .ref qb, .ref qf, .ref qh, .ref qd])), (qh, .inl (cZ, 1024, .inl (fun p => zI (h p)))), (qd, .inl (cZ, 1024, .inl (fun p => zI (k p))))] := hD
                  have hP := hP.sub (ws' := [(h0, .inr (2, [.int (nI 0), .int (nI g), .ref qt, .ref qn, .ref qp, .ref qb, .ref qf, .ref qh, .ref qd])), (qt, .inl (cI, 1024, .inl t)), (qh, .inl (cZ, 1024, .inl (fun p => zI (h p)))), (qd, .inl (cZ, 1024, .inl (fun p => zI (k p))))]) [1, 0, 2, 3] rfl
                  have hD := hD.sub (ws' := [(h0, .inr (2, [.int (nI 0), .int (nI g), .ref qt, .ref qn, .ref qp, .ref qb, .ref qf, .ref qh, .ref qd])), (qt, .inl (cI, 1024, .inl t)), (qh, .inl (cZ, 1024, .inl (fun p => zI (h p)))), (qd, .inl (cZ, 1024, .inl (fun p => zI (k p))))]) [1, 0, 2, 3] rfl rfl
                  exact rk_iret (()) hx hb hr hlocks ((rk_coF_in (t := t) (h := h) (k := k) (g := g) (j := 4) (by decide)).symm) rfl hP hK hD hS d_M_count_237
                · refine lv_tableIn (off := 66) (tgt := 238) hx hb d_M_count_172 (by decide) (by decide) rfl (by decide) ?_
                  refine lv_aload_n hx hb d_M_count_238 rfl (lv_at hl 6 rfl) ?_
                  refine lv_iconst (v := zI false) hx hb d_M_count_239 (by decide) ?_
                  refine rk_backi (wc := [(h0, .inr (2, [.int (nI 0), .int (nI g), .ref qt, .ref qn, .ref qp, .ref qb, .ref qf, .ref qh, .ref qd])), (qh, .inl (cZ, 1024, .inl (fun p => zI (h p)))), (qd, .inl (cZ, 1024, .inl (fun p => zI (k p))))]) (wr := [(qt, .inl (cI, 1024, .inl t))]) (va_runV (As := [.int (zI false)]) (rest := []) ⟨hx, hb, hml, hown, htw⟩ (c_M_many l dC dI cI cZ cJ _ h0 qt qn qp qb qf qh qd (nI 0) g h k false) (rk_cwV 1 htw gc_M_count_240 (by decide +kernel) ⟨(Nat.le_of_ble_eq_true rfl), (Nat.le_of_ble_eq_true rfl)⟩) (⟨rk_blind, va_recv hK hP (ci := 2) rfl (q0 := 0) rfl, rk_give (rk_psub (isC := [0, 2, 3]) hP rfl) hK (hD.sub [0, 2, 3] rfl rfl)⟩) rfl rfl hl.1 rfl (lv_room (Nat.le_of_ble_eq_true rfl)) d_M_count_240 ⟨(Nat.le_of_ble_eq_true rfl), (Nat.le_of_ble_eq_true rfl)⟩) hP hD hS hA [0, 2, 3] [1] rfl rfl rfl (by decide) (fun x5 u5 H locs hp5 hP hD hS => ?_)
                  subst hp5
                  have hP : va_P (dC, dI) classes [(qt, .inl (cI, 1024, .inl t)), (h0, .inr (2, [.int (nI 0), .int (nI g), .ref qt, .ref qn, .ref qp, .ref qb, .ref qf, .ref qh, .ref qd])), (qh, .inl (cZ, 1024, .inl (fun p => zI (h p)))), (qd, .inl (cZ, 1024, .inl (fun p => zI (k p))))] H := hP
                  have hD : va_D _ [(qt, .inl (cI, 1024, .inl t)), (h0, .inr (2, [.int (nI 0), .int (nI g), .ref qt, .ref qn, .ref qp, .ref qb, .ref qf, .ref qh, .ref qd])), (qh, .inl (cZ, 1024, .inl (fun p => zI (h p)))), (qd, .inl (cZ, 1024, .inl (fun p => zI (k p))))] := hD
                  have hP := hP.sub (ws' := [(h0, .inr (2, [.int (nI 0), .int (nI g), .ref qt, .ref qn, .ref qp, .ref qb, .ref qf, .ref qh, .ref qd])), (qt, .inl (cI, 1024, .inl t)), (qh, .inl (cZ, 1024, .inl (fun p => zI (h p)))), (qd, .inl (cZ, 1024, .inl (fun p => zI (k p))))]) [1, 0, 2, 3] rfl
                  have hD := hD.sub (ws' := [(h0, .inr (2, [.int (nI 0), .int (nI g), .ref qt, .ref qn, .ref qp, .ref qb, .ref qf, .ref qh, .ref qd])), (qt, .inl (cI, 1024, .inl t)), (qh, .inl (cZ, 1024, .inl (fun p => zI (h p)))), (qd, .inl (cZ, 1024, .inl (fun p => zI (k p))))]) [1, 0, 2, 3] rfl rfl
                  exact rk_iret (()) hx hb hr hlocks ((rk_coF_in (t := t) (h := h) (k := k) (g := g) (j := 5) (by decide)).symm) rfl hP hK hD hS d_M_count_243
                · refine lv_tableIn (off := 72) (tgt := 244) hx hb d_M_count_172 (by decide) (by decide) rfl (by decide) ?_
                  refine lv_iload hx hb d_M_count_244 (lv_at hl 2 rfl) ?_
                  exact rk_iret (()) hx hb hr hlocks ((rk_coF_in (t := t) (h := h) (k := k) (g := g) (j := 6) (by decide)).symm) rfl hP hK hD hS d_M_count_246
                · refine lv_tableIn (off := 75) (tgt := 247) hx hb d_M_count_172 (by decide) (by decide) rfl (by decide) ?_
                  refine lv_iload hx hb d_M_count_247 (lv_at hl 1 rfl) ?_
                  exact rk_iret (()) hx hb hr hlocks ((rk_coF_in (t := t) (h := h) (k := k) (g := g) (j := 7) (by decide)).symm) rfl hP hK hD hS d_M_count_249
            · have hd := rk_gt (by omega) (by omega) hd
              refine lv_aload_n hx hb d_M_count_81 rfl (lv_at hl 6 rfl) ?_
              refine va_get (D := (dC, dI)) (ci := 2) (v := .ref qh) (C := R_M) (T := F_M) (N := 9) hx hb htw u_M hown hK hP 0 rfl rfl 7 (by decide) (htw _ l_M_25) (fun _ h9 => h9) rfl d_M_count_82 ?_
              refine lv_bipush (v := nI 32) hx hb d_M_count_85 (by decide) ?_
              refine lv_iload hx hb d_M_count_87 (lv_at hl 0 rfl) ?_
              refine lv_imul hx hb d_M_count_89 ?_
              refine rk_top (y := nI (32 * i)) (pk_mul 32 i) ?_
              refine lv_iload hx hb d_M_count_90 (lv_at hl 0 rfl) ?_
              refine lv_iadd hx hb d_M_count_92 ?_
              refine rk_top (y := nI (32 * i + i)) (nI_add (32 * i) i) ?_
              refine va_zald hx hb hK hP 2 1 rfl rfl (vp_in_nI (n := 32 * i + i) (show 32 * i + i < 1024 by omega) (by decide)) d_M_count_93 ?_
              refine rk_top (y := zI (h (32 * i + i))) (congrArg (fun p => zI (h p)) (nI_clamp (show 32 * i + i < 2 ^ 31 by omega))) ?_
              refine lv_if_ne (tgt := 100) hx hb d_M_count_94 (by decide) (fun hd2 => ?_) (fun hd2 => ?_)
              · have hself := zI_n.mp hd2
                refine lv_iinc (k := 2) (v := nI (rk_c (fun a => h (32 * a + a)) i + 1)) (lv' := [(5, .int (nI (rk_c (fun a => h (32 * a + a)) i + 1))), (7, .int (nI i)), (6, .int (nI (rk_c (fun a => h (32 * a + a) && !rk_any (fun b => h (32 * a + b) && h (32 * b + a)) a) i))), (4, .int (nI (rk_c h 1024))), (3, .int (rk_t t 1024)), (2, .int (nI (rk_c (fun p => decide (0 < t p)) 1024))), (0, .ref h0), (1, .int x)]) hx hb d_M_count_100 hl rfl (nI_1 (rk_c (fun a => h (32 * a + a)) i)) (by decide) rfl (fun ls hl => ?_)
                rw [← rk_c_t (f := (fun a => h (32 * a + a))) (n := i) hself] at hl
                refine lv_iconst (v := nI 1) hx hb d_M_count_103 (by decide) ?_
                refine rk_top (y := zI (!rk_any (fun b => h (32 * i + b) && h (32 * b + i)) 0)) rfl ?_
                refine lv_istore (lv' := [(8, .int (zI (!rk_any (fun b => h (32 * i + b) && h (32 * b + i)) 0))), (5, .int (nI (rk_c (fun a => h (32 * a + a)) (i + 1)))), (7, .int (nI i)), (6, .int (nI (rk_c (fun a => h (32 * a + a) && !rk_any (fun b => h (32 * a + b) && h (32 * b + a)) a) i))), (4, .int (nI (rk_c h 1024))), (3, .int (rk_t t 1024)), (2, .int (nI (rk_c (fun p => decide (0 < t p)) 1024))), (0, .ref h0), (1, .int x)]) hx hb d_M_count_104 hl (by decide) rfl (fun ls hl => ?_)
                refine lv_iconst (v := nI 0) hx hb d_M_count_106 (by decide) ?_
                refine lv_istore (lv' := [(9, .int (nI 0)), (8, .int (zI (!rk_any (fun b => h (32 * i + b) && h (32 * b + i)) 0))), (5, .int (nI (rk_c (fun a => h (32 * a + a)) (i + 1)))), (7, .int (nI i)), (6, .int (nI (rk_c (fun a => h (32 * a + a) && !rk_any (fun b => h (32 * a + b) && h (32 * b + a)) a) i))), (4, .int (nI (rk_c h 1024))), (3, .int (rk_t t 1024)), (2, .int (nI (rk_c (fun p => decide (0 < t p)) 1024))), (0, .ref h0), (1, .int x)]) hx hb d_M_count_107 hl (by decide) rfl (fun ls hl => ?_)
                have lp3 : ∀ (kf3 : Nat) (b : Nat), i - b < kf3 → b ≤ i → ∀ (ls : Array Slot) (H : Heap) (locs : List Loc), lv_has ls 10 [(9, .int (nI b)), (8, .int (zI (!rk_any (fun b => h (32 * i + b) && h (32 * b + i)) b))), (5, .int (nI (rk_c (fun a => h (32 * a + a)) (i + 1)))), (7, .int (nI i)), (6, .int (nI (rk_c (fun a => h (32 * a + a) && !rk_any (fun b => h (32 * a + b) && h (32 * b + a)) a) i))), (4, .int (nI (rk_c h 1024))), (3, .int (rk_t t 1024)), (2, .int (nI (rk_c (fun p => decide (0 < t p)) 1024))), (0, .ref h0), (1, .int x)] → va_P (dC, dI) classes [(h0, .inr (2, [.int (nI 0), .int (nI g), .ref qt, .ref qn, .ref qp, .ref qb, .ref qf, .ref qh, .ref qd])), (qt, .inl (cI, 1024, .inl t)), (qh, .inl (cZ, 1024, .inl (fun p => zI (h p)))), (qd, .inl (cZ, 1024, .inl (fun p => zI (k p))))] H → va_D (va_A [(h0, .inr (2, [.int th, .int (nI g), .ref qt, .ref qn, .ref qp, .ref qb, .ref qf, .ref qh, .ref qd])), (qt, .inl (cI, 1024, .inl t)), (qh, .inl (cZ, 1024, .inl (fun p => zI (h p)))), (qd, .inl (cZ, 1024, .inl (fun p => zI (k p))))] sz) [(h0, .inr (2, [.int (nI 0), .int (nI g), .ref qt, .ref qn, .ref qp, .ref qb, .ref qf, .ref qh, .ref qd])), (qt, .inl (cI, 1024, .inl t)), (qh, .inl (cZ, 1024, .inl (fun p => zI (h p)))), (qd, .inl (cZ, 1024, .inl (fun p => zI (k p))))] → va_S (va_A [(h0, .inr (2, [.int th, .int (nI g), .ref qt, .ref qn, .ref qp, .ref qb, .ref qf, .ref qh, .ref qd])), (qt, .inl (cI, 1024, .inl t)), (qh, .inl (cZ, 1024, .inl (fun p => zI (h p)))), (qd, .inl (cZ, 1024, .inl (fun p => zI (k p))))] sz) s.heap H locs → W p l e { frames := 1, cells := 0, slots := 0, locals := 23 } s m ([.ref h0, .int x]).toArray below meth c H locs 0 0 (MQ below (va_Qi (fun (r : Int32) (u : Unit) => r = rk_coF t h k g x) (fun _ s9 => rk_at (dC, dI) [(cI, .int), (cZ, .boolean), (cJ, .long)] (va_A [(h0, .inr (2, [.int th, .int (nI g), .ref qt, .ref qn, .ref qp, .ref qb, .ref qf, .ref qh, .ref qd])), (qt, .inl (cI, 1024, .inl t)), (qh, .inl (cZ, 1024, .inl (fun p => zI (h p)))), (qd, .inl (cZ, 1024, .inl (fun p => zI (k p))))] sz) [(h0, .inr (2, [.int (nI 0), .int (nI g), .ref qt, .ref qn, .ref qp, .ref qb, .ref qf, .ref qh, .ref qd])), (qt, .inl (cI, 1024, .inl t)), (qh, .inl (cZ, 1024, .inl (fun p => zI (h p)))), (qd, .inl (cZ, 1024, .inl (fun p => zI (k p))))] s9) (va_A [(h0, .inr (2, [.int th, .int (nI g), .ref qt, .ref qn, .ref qp, .ref qb, .ref qf, .ref qh, .ref qd])), (qt, .inl (cI, 1024, .inl t)), (qh, .inl (cZ, 1024, .inl (fun p => zI (h p)))), (qd, .inl (cZ, 1024, .inl (fun p => zI (k p))))] sz)) ([.ref h0, .int x]).toArray s 0 0 (va_A [(h0, .inr (2, [.int th, .int (nI g), .ref qt, .ref qn, .ref qp, .ref qb, .ref qf, .ref qh, .ref qd])), (qt, .inl (cI, 1024, .inl t)), (qh, .inl (cZ, 1024, .inl (fun p => zI (h p)))), (qd, .inl (cZ, 1024, .inl (fun p => zI (k p))))] sz)) (F0 m 109 ls []) := by
                  intro kf3
                  induction kf3 with
                  | zero => intro b hk3 hbi; exact absurd hk3 (by omega)
                  | succ kf3 ih3 =>
                    intro b hk3 hbi ls H locs hl hP hD hS
                    refine lv_iload hx hb d_M_count_109 (lv_at hl 0 rfl) ?_
                    refine lv_iload hx hb d_M_count_111 (lv_at hl 3 rfl) ?_
                    refine lv_icmp_ge (tgt := 157) hx hb d_M_count_113 (by decide) (fun he => ?_) (fun he => ?_)
                    · have he := (nI_leI (by omega) (by omega)).mp he
                      rw [show b = i by omega] at hl
                      have hl : lv_has ls 10 [(9, .int (nI i)), (8, .int (zI (!rk_any (fun b => h (32 * i + b) && h (32 * b + i)) i))), (5, .int (nI (rk_c (fun a => h (32 * a + a)) (i + 1)))), (7, .int (nI i)), (6, .int (nI (rk_c (fun a => h (32 * a + a) && !rk_any (fun b => h (32 * a + b) && h (32 * b + a)) a) i))), (4, .int (nI (rk_c h 1024))), (3, .int (rk_t t 1024)), (2, .int (nI (rk_c (fun p => decide (0 < t p)) 1024))), (0, .ref h0), (1, .int x)] := hl
                      refine lv_iload hx hb d_M_count_157 (lv_at hl 1 rfl) ?_
                      refine lv_if_eq (tgt := 165) hx hb d_M_count_159 (by decide) (fun hf => ?_) (fun hf => ?_)
                      · rw [← rk_c_f (f := (fun a => h (32 * a + a) && !rk_any (fun b => h (32 * a + b) && h (32 * b + a)) a)) (n := i) (by show (h (32 * i + i) && !(rk_any (fun b => h (32 * i + b) && h (32 * b + i)) i)) = false; rw [zI_0.mp hf, Bool.and_false])] at hl
                        refine lv_iinc (k := 3) (v := nI (i + 1)) (lv' := [(7, .int (nI (i + 1))), (9, .int (nI i)), (8, .int (zI (!rk_any (fun b => h (32 * i + b) && h (32 * b + i)) i))), (5, .int (nI (rk_c (fun a => h (32 * a + a)) (i + 1)))), (6, .int (nI (rk_c (fun a => h (32 * a + a) && !rk_any (fun b => h (32 * a + b) && h (32 * b + a)) a) (i + 1)))), (4, .int (nI (rk_c h 1024))), (3, .int (rk_t t 1024)), (2, .int (nI (rk_c (fun p => decide (0 < t p)) 1024))), (0, .ref h0), (1, .int x)]) hx hb d_M_count_165 hl rfl (nI_1 i) (by decide) rfl (fun ls hl => ?_)
                        refine lv_goto (tgt := 74) hx hb d_M_count_168 (by decide) ?_
                        have hl := lv_sub (l' := [(7, .int (nI (i + 1))), (6, .int (nI (rk_c (fun a => h (32 * a + a) && !rk_any (fun b => h (32 * a + b) && h (32 * b + a)) a) (i + 1)))), (5, .int (nI (rk_c (fun a => h (32 * a + a)) (i + 1)))), (4, .int (nI (rk_c h 1024))), (3, .int (rk_t t 1024)), (2, .int (nI (rk_c (fun p => decide (0 < t p)) 1024))), (0, .ref h0), (1, .int x)]) hl [0, 4, 3, 5, 6, 7, 8, 9] rfl
                        exact ih2 (i + 1) (by omega) (by omega) ls H locs hl hP hD hS
                      · refine lv_iinc (k := 4) (v := nI (rk_c (fun a => h (32 * a + a) && !rk_any (fun b => h (32 * a + b) && h (32 * b + a)) a) i + 1)) (lv' := [(6, .int (nI (rk_c (fun a => h (32 * a + a) && !rk_any (fun b => h (32 * a + b) && h (32 * b + a)) a) i + 1))), (9, .int (nI i)), (8, .int (zI (!rk_any (fun b => h (32 * i + b) && h (32 * b + i)) i))), (5, .int (nI (rk_c (fun a => h (32 * a + a)) (i + 1)))), (7, .int (nI i)), (4, .int (nI (rk_c h 1024))), (3, .int (rk_t t 1024)), (2, .int (nI (rk_c (fun p => decide (0 < t p)) 1024))), (0, .ref h0), (1, .int x)]) hx hb d_M_count_162 hl rfl (nI_1 (rk_c (fun a => h (32 * a + a) && !rk_any (fun b => h (32 * a + b) && h (32 * b + a)) a) i)) (by decide) rfl (fun ls hl => ?_)
                        rw [← rk_c_t (f := (fun a => h (32 * a + a) && !rk_any (fun b => h (32 * a + b) && h (32 * b + a)) a)) (n := i) (by show (h (32 * i + i) && !(rk_any (fun b => h (32 * i + b) && h (32 * b + i)) i)) = true; rw [zI_n.mp hf, hself]; rfl)] at hl
                        refine lv_iinc (k := 4) (v := nI (i + 1)) (lv' := [(7, .int (nI (i + 1))), (6, .int (nI (rk_c (fun a => h (32 * a + a) && !rk_any (fun b => h (32 * a + b) && h (32 * b + a)) a) (i + 1)))), (9, .int (nI i)), (8, .int (zI (!rk_any (fun b => h (32 * i + b) && h (32 * b + i)) i))), (5, .int (nI (rk_c (fun a => h (32 * a + a)) (i + 1)))), (4, .int (nI (rk_c h 1024))), (3, .int (rk_t t 1024)), (2, .int (nI (rk_c (fun p => decide (0 < t p)) 1024))), (0, .ref h0), (1, .int x)]) hx hb d_M_count_165 hl rfl (nI_1 i) (by decide) rfl (fun ls hl => ?_)
                        refine lv_goto (tgt := 74) hx hb d_M_count_168 (by decide) ?_
                        have hl := lv_sub (l' := [(7, .int (nI (i + 1))), (6, .int (nI (rk_c (fun a => h (32 * a + a) && !rk_any (fun b => h (32 * a + b) && h (32 * b + a)) a) (i + 1)))), (5, .int (nI (rk_c (fun a => h (32 * a + a)) (i + 1)))), (4, .int (nI (rk_c h 1024))), (3, .int (rk_t t 1024)), (2, .int (nI (rk_c (fun p => decide (0 < t p)) 1024))), (0, .ref h0), (1, .int x)]) hl [0, 1, 4, 5, 6, 7, 8, 9] rfl
                        exact ih2 (i + 1) (by omega) (by omega) ls H locs hl hP hD hS
                    · have he := rk_gt (by omega) (by omega) he
                      refine lv_aload_n hx hb d_M_count_116 rfl (lv_at hl 8 rfl) ?_
                      refine va_get (D := (dC, dI)) (ci := 2) (v := .ref qh) (C := R_M) (T := F_M) (N := 9) hx hb htw u_M hown hK hP 0 rfl rfl 7 (by decide) (htw _ l_M_25) (fun _ h9 => h9) rfl d_M_count_117 ?_
                      refine lv_bipush (v := nI 32) hx hb d_M_count_120 (by decide) ?_
                      refine lv_iload hx hb d_M_count_122 (lv_at hl 3 rfl) ?_
                      refine lv_imul hx hb d_M_count_124 ?_
                      refine rk_top (y := nI (32 * i)) (pk_mul 32 i) ?_
                      refine lv_iload hx hb d_M_count_125 (lv_at hl 0 rfl) ?_
                      refine lv_iadd hx hb d_M_count_127 ?_
                      refine rk_top (y := nI (32 * i + b)) (nI_add (32 * i) b) ?_
                      refine va_zald hx hb hK hP 2 1 rfl rfl (vp_in_nI (n := 32 * i + b) (show 32 * i + b < 1024 by omega) (by decide)) d_M_count_128 ?_
                      refine rk_top (y := zI (h (32 * i + b))) (congrArg (fun p => zI (h p)) (nI_clamp (show 32 * i + b < 2 ^ 31 by omega))) ?_
                      refine lv_if_eq (tgt := 151) hx hb d_M_count_129 (by decide) (fun hg1 => ?_) (fun hg1 => ?_)
                      · rw [show (!rk_any (fun b => h (32 * i + b) && h (32 * b + i)) b) = (!rk_any (fun b => h (32 * i + b) && h (32 * b + i)) (b + 1)) by rw [rk_any_s, zI_0.mp hg1, Bool.false_and, Bool.or_false]] at hl
                        refine lv_iinc (k := 0) (v := nI (b + 1)) (lv' := [(9, .int (nI (b + 1))), (8, .int (zI (!rk_any (fun b => h (32 * i + b) && h (32 * b + i)) (b + 1)))), (5, .int (nI (rk_c (fun a => h (32 * a + a)) (i + 1)))), (7, .int (nI i)), (6, .int (nI (rk_c (fun a => h (32 * a + a) && !rk_any (fun b => h (32 * a + b) && h (32 * b + a)) a) i))), (4, .int (nI (rk_c h 1024))), (3, .int (rk_t t 1024)), (2, .int (nI (rk_c (fun p => decide (0 < t p)) 1024))), (0, .ref h0), (1, .int x)]) hx hb d_M_count_151 hl rfl (nI_1 b) (by decide) rfl (fun ls hl => ?_)
                        refine lv_goto (tgt := 109) hx hb d_M_count_154 (by decide) ?_
                        have hl := lv_sub (l' := [(9, .int (nI (b + 1))), (8, .int (zI (!rk_any (fun b => h (32 * i + b) && h (32 * b + i)) (b + 1)))), (5, .int (nI (rk_c (fun a => h (32 * a + a)) (i + 1)))), (7, .int (nI i)), (6, .int (nI (rk_c (fun a => h (32 * a + a) && !rk_any (fun b => h (32 * a + b) && h (32 * b + a)) a) i))), (4, .int (nI (rk_c h 1024))), (3, .int (rk_t t 1024)), (2, .int (nI (rk_c (fun p => decide (0 < t p)) 1024))), (0, .ref h0), (1, .int x)]) hl [0, 1, 2, 3, 4, 5, 6, 7, 8, 9] rfl
                        exact ih3 (b + 1) (by omega) (by omega) ls H locs hl hP hD hS
                      · refine lv_aload_n hx hb d_M_count_132 rfl (lv_at hl 8 rfl) ?_
                        refine va_get (D := (dC, dI)) (ci := 2) (v := .ref qh) (C := R_M) (T := F_M) (N := 9) hx hb htw u_M hown hK hP 0 rfl rfl 7 (by decide) (htw _ l_M_25) (fun _ h9 => h9) rfl d_M_count_133 ?_
                        refine lv_bipush (v := nI 32) hx hb d_M_count_136 (by decide) ?_
                        refine lv_iload hx hb d_M_count_138 (lv_at hl 0 rfl) ?_
                        refine lv_imul hx hb d_M_count_140 ?_
                        refine rk_top (y := nI (32 * b)) (pk_mul 32 b) ?_
                        refine lv_iload hx hb d_M_count_141 (lv_at hl 3 rfl) ?_
                        refine lv_iadd hx hb d_M_count_143 ?_
                        refine rk_top (y := nI (32 * b + i)) (nI_add (32 * b) i) ?_
                        refine va_zald hx hb hK hP 2 1 rfl rfl (vp_in_nI (n := 32 * b + i) (show 32 * b + i < 1024 by omega) (by decide)) d_M_count_144 ?_
                        refine rk_top (y := zI (h (32 * b + i))) (congrArg (fun p => zI (h p)) (nI_clamp (show 32 * b + i < 2 ^ 31 by omega))) ?_
                        refine lv_if_eq (tgt := 151) hx hb d_M_count_145 (by decide) (fun hg2 => ?_) (fun hg2 => ?_)
                        · rw [show (!rk_any (fun b => h (32 * i + b) && h (32 * b + i)) b) = (!rk_any (fun b => h (32 * i + b) && h (32 * b + i)) (b + 1)) by rw [rk_any_s, zI_0.mp hg2, Bool.and_false, Bool.or_false]] at hl
                          refine lv_iinc (k := 0) (v := nI (b + 1)) (lv' := [(9, .int (nI (b + 1))), (8, .int (zI (!rk_any (fun b => h (32 * i + b) && h (32 * b + i)) (b + 1)))), (5, .int (nI (rk_c (fun a => h (32 * a + a)) (i + 1)))), (7, .int (nI i)), (6, .int (nI (rk_c (fun a => h (32 * a + a) && !rk_any (fun b => h (32 * a + b) && h (32 * b + a)) a) i))), (4, .int (nI (rk_c h 1024))), (3, .int (rk_t t 1024)), (2, .int (nI (rk_c (fun p => decide (0 < t p)) 1024))), (0, .ref h0), (1, .int x)]) hx hb d_M_count_151 hl rfl (nI_1 b) (by decide) rfl (fun ls hl => ?_)
                          refine lv_goto (tgt := 109) hx hb d_M_count_154 (by decide) ?_
                          have hl := lv_sub (l' := [(9, .int (nI (b + 1))), (8, .int (zI (!rk_any (fun b => h (32 * i + b) && h (32 * b + i)) (b + 1)))), (5, .int (nI (rk_c (fun a => h (32 * a + a)) (i + 1)))), (7, .int (nI i)), (6, .int (nI (rk_c (fun a => h (32 * a + a) && !rk_any (fun b => h (32 * a + b) && h (32 * b + a)) a) i))), (4, .int (nI (rk_c h 1024))), (3, .int (rk_t t 1024)), (2, .int (nI (rk_c (fun p => decide (0 < t p)) 1024))), (0, .ref h0), (1, .int x)]) hl [0, 1, 2, 3, 4, 5, 6, 7, 8, 9] rfl
                          exact ih3 (b + 1) (by omega) (by omega) ls H locs hl hP hD hS
                        · refine lv_iconst (v := nI 0) hx hb d_M_count_148 (by decide) ?_
                          refine rk_top (y := zI (!rk_any (fun b => h (32 * i + b) && h (32 * b + i)) (b + 1))) (by rw [rk_any_s, zI_n.mp hg1, zI_n.mp hg2, Bool.and_true, Bool.or_true]; rfl) ?_
                          refine lv_istore (lv' := [(8, .int (zI (!rk_any (fun b => h (32 * i + b) && h (32 * b + i)) (b + 1)))), (9, .int (nI b)), (5, .int (nI (rk_c (fun a => h (32 * a + a)) (i + 1)))), (7, .int (nI i)), (6, .int (nI (rk_c (fun a => h (32 * a + a) && !rk_any (fun b => h (32 * a + b) && h (32 * b + a)) a) i))), (4, .int (nI (rk_c h 1024))), (3, .int (rk_t t 1024)), (2, .int (nI (rk_c (fun p => decide (0 < t p)) 1024))), (0, .ref h0), (1, .int x)]) hx hb d_M_count_149 hl (by decide) rfl (fun ls hl => ?_)
                          refine lv_iinc (k := 1) (v := nI (b + 1)) (lv' := [(9, .int (nI (b + 1))), (8, .int (zI (!rk_any (fun b => h (32 * i + b) && h (32 * b + i)) (b + 1)))), (5, .int (nI (rk_c (fun a => h (32 * a + a)) (i + 1)))), (7, .int (nI i)), (6, .int (nI (rk_c (fun a => h (32 * a + a) && !rk_any (fun b => h (32 * a + b) && h (32 * b + a)) a) i))), (4, .int (nI (rk_c h 1024))), (3, .int (rk_t t 1024)), (2, .int (nI (rk_c (fun p => decide (0 < t p)) 1024))), (0, .ref h0), (1, .int x)]) hx hb d_M_count_151 hl rfl (nI_1 b) (by decide) rfl (fun ls hl => ?_)
                          refine lv_goto (tgt := 109) hx hb d_M_count_154 (by decide) ?_
                          have hl := lv_sub (l' := [(9, .int (nI (b + 1))), (8, .int (zI (!rk_any (fun b => h (32 * i + b) && h (32 * b + i)) (b + 1)))), (5, .int (nI (rk_c (fun a => h (32 * a + a)) (i + 1)))), (7, .int (nI i)), (6, .int (nI (rk_c (fun a => h (32 * a + a) && !rk_any (fun b => h (32 * a + b) && h (32 * b + a)) a) i))), (4, .int (nI (rk_c h 1024))), (3, .int (rk_t t 1024)), (2, .int (nI (rk_c (fun p => decide (0 < t p)) 1024))), (0, .ref h0), (1, .int x)]) hl [0, 1, 2, 3, 4, 5, 6, 7, 8, 9] rfl
                          exact ih3 (b + 1) (by omega) (by omega) ls H locs hl hP hD hS
                have hl := lv_sub (l' := [(9, .int (nI 0)), (8, .int (zI (!rk_any (fun b => h (32 * i + b) && h (32 * b + i)) 0))), (5, .int (nI (rk_c (fun a => h (32 * a + a)) (i + 1)))), (7, .int (nI i)), (6, .int (nI (rk_c (fun a => h (32 * a + a) && !rk_any (fun b => h (32 * a + b) && h (32 * b + a)) a) i))), (4, .int (nI (rk_c h 1024))), (3, .int (rk_t t 1024)), (2, .int (nI (rk_c (fun p => decide (0 < t p)) 1024))), (0, .ref h0), (1, .int x)]) hl [0, 1, 2, 3, 4, 5, 6, 7, 8, 9] rfl
                exact lp3 33 0 (by omega) (by omega) ls _ _ hl hP hD hS
              · have hself := zI_0.mp hd2
                rw [← rk_c_f (f := (fun a => h (32 * a + a))) (n := i) hself, ← rk_c_f (f := (fun a => h (32 * a + a) && !rk_any (fun b => h (32 * a + b) && h (32 * b + a)) a)) (n := i) (by show (h (32 * i + i) && _) = false; rw [hself]; rfl)] at hl
                refine lv_goto (tgt := 165) hx hb d_M_count_97 (by decide) ?_
                refine lv_iinc (k := 0) (v := nI (i + 1)) (lv' := [(7, .int (nI (i + 1))), (6, .int (nI (rk_c (fun a => h (32 * a + a) && !rk_any (fun b => h (32 * a + b) && h (32 * b + a)) a) (i + 1)))), (5, .int (nI (rk_c (fun a => h (32 * a + a)) (i + 1)))), (4, .int (nI (rk_c h 1024))), (3, .int (rk_t t 1024)), (2, .int (nI (rk_c (fun p => decide (0 < t p)) 1024))), (0, .ref h0), (1, .int x)]) hx hb d_M_count_165 hl rfl (nI_1 i) (by decide) rfl (fun ls hl => ?_)
                refine lv_goto (tgt := 74) hx hb d_M_count_168 (by decide) ?_
                have hl := lv_sub (l' := [(7, .int (nI (i + 1))), (6, .int (nI (rk_c (fun a => h (32 * a + a) && !rk_any (fun b => h (32 * a + b) && h (32 * b + a)) a) (i + 1)))), (5, .int (nI (rk_c (fun a => h (32 * a + a)) (i + 1)))), (4, .int (nI (rk_c h 1024))), (3, .int (rk_t t 1024)), (2, .int (nI (rk_c (fun p => decide (0 < t p)) 1024))), (0, .ref h0), (1, .int x)]) hl [0, 1, 2, 3, 4, 5, 6, 7] rfl
                exact ih2 (i + 1) (by omega) (by omega) ls H locs hl hP hD hS
        have hl := lv_sub (l' := [(7, .int (nI 0)), (6, .int (nI (rk_c (fun a => h (32 * a + a) && !rk_any (fun b => h (32 * a + b) && h (32 * b + a)) a) 0))), (5, .int (nI (rk_c (fun a => h (32 * a + a)) 0))), (4, .int (nI (rk_c h 1024))), (3, .int (rk_t t 1024)), (2, .int (nI (rk_c (fun p => decide (0 < t p)) 1024))), (0, .ref h0), (1, .int x)]) hl [0, 1, 2, 3, 4, 5, 6, 7] rfl
        exact lp2 33 0 (by omega) (by omega) ls _ _ hl hP hD hS
      · have hc := rk_gt (by omega) (by omega) hc
        refine lv_aload_n hx hb d_M_count_29 rfl (lv_at hl 6 rfl) ?_
        refine va_get (D := (dC, dI)) (ci := 2) (v := .ref qt) (C := R_M) (T := F_M) (N := 9) hx hb htw u_M hown hK hP 0 rfl rfl 2 (by decide) (htw _ l_M_9) (fun _ h9 => h9) rfl d_M_count_30 ?_
        refine lv_iload hx hb d_M_count_33 (lv_at hl 0 rfl) ?_
        refine va_iald hx hb hK hP 1 0 rfl rfl (vp_in_nI (n := i) (show i < 1024 by omega) (by decide)) d_M_count_35 ?_
        refine rk_top (y := t i) (congrArg t (nI_clamp (show i < 2 ^ 31 by omega))) ?_
        refine lv_if_le (tgt := 42) hx hb d_M_count_36 (by decide) (fun hc2 => ?_) (fun hc2 => ?_)
        · rw [← rk_c_f (f := (fun p => decide (0 < t p))) (n := i) (decide_eq_false (Int32.not_lt.mpr hc2))] at hl
          refine lv_iload_n hx hb d_M_count_42 rfl (lv_at hl 4 rfl) ?_
          refine lv_aload_n hx hb d_M_count_43 rfl (lv_at hl 6 rfl) ?_
          refine va_get (D := (dC, dI)) (ci := 2) (v := .ref qt) (C := R_M) (T := F_M) (N := 9) hx hb htw u_M hown hK hP 0 rfl rfl 2 (by decide) (htw _ l_M_9) (fun _ h9 => h9) rfl d_M_count_44 ?_
          refine lv_iload hx hb d_M_count_47 (lv_at hl 0 rfl) ?_
          refine va_iald hx hb hK hP 1 0 rfl rfl (vp_in_nI (n := i) (show i < 1024 by omega) (by decide)) d_M_count_49 ?_
          refine rk_top (y := t i) (congrArg t (nI_clamp (show i < 2 ^ 31 by omega))) ?_
          refine lv_iadd hx hb d_M_count_50 ?_
          refine lv_istore_n (lv' := [(3, .int ((rk_t t i) + (t i))), (7, .int (nI i)), (6, .int (nI 0)), (5, .int (nI 0)), (4, .int (nI (rk_c h i))), (2, .int (nI (rk_c (fun p => decide (0 < t p)) (i + 1)))), (0, .ref h0), (1, .int x)]) hx hb d_M_count_51 rfl hl (by decide) rfl (fun ls hl => ?_)
          refine lv_aload_n hx hb d_M_count_52 rfl (lv_at hl 6 rfl) ?_
          refine va_get (D := (dC, dI)) (ci := 2) (v := .ref qh) (C := R_M) (T := F_M) (N := 9) hx hb htw u_M hown hK hP 0 rfl rfl 7 (by decide) (htw _ l_M_25) (fun _ h9 => h9) rfl d_M_count_53 ?_
          refine lv_iload hx hb d_M_count_56 (lv_at hl 1 rfl) ?_
          refine va_zald hx hb hK hP 2 1 rfl rfl (vp_in_nI (n := i) (show i < 1024 by omega) (by decide)) d_M_count_58 ?_
          refine rk_top (y := zI (h i)) (congrArg (fun p => zI (h p)) (nI_clamp (show i < 2 ^ 31 by omega))) ?_
          refine lv_if_eq (tgt := 65) hx hb d_M_count_59 (by decide) (fun hc3 => ?_) (fun hc3 => ?_)
          · refine lv_iinc (k := 1) (v := nI (i + 1)) (lv' := [(7, .int (nI (i + 1))), (3, .int ((rk_t t i) + (t i))), (6, .int (nI 0)), (5, .int (nI 0)), (4, .int (nI (rk_c h i))), (2, .int (nI (rk_c (fun p => decide (0 < t p)) (i + 1)))), (0, .ref h0), (1, .int x)]) hx hb d_M_count_65 hl rfl (nI_1 i) (by decide) rfl (fun ls hl => ?_)
            refine lv_goto (tgt := 21) hx hb d_M_count_68 (by decide) ?_
            rw [← rk_c_f (f := h) (n := i) (zI_0.mp hc3)] at hl
            have hl := lv_sub (l' := [(7, .int (nI (i + 1))), (6, .int (nI 0)), (5, .int (nI 0)), (4, .int (nI (rk_c h (i + 1)))), (3, .int (rk_t t (i + 1))), (2, .int (nI (rk_c (fun p => decide (0 < t p)) (i + 1)))), (0, .ref h0), (1, .int x)]) hl [0, 2, 3, 4, 1, 5, 6, 7] rfl
            exact ih (i + 1) (by omega) (by omega) ls H locs hl hP hD hS
          · refine lv_iinc (k := 4) (v := nI (rk_c h i + 1)) (lv' := [(4, .int (nI (rk_c h i + 1))), (3, .int ((rk_t t i) + (t i))), (7, .int (nI i)), (6, .int (nI 0)), (5, .int (nI 0)), (2, .int (nI (rk_c (fun p => decide (0 < t p)) (i + 1)))), (0, .ref h0), (1, .int x)]) hx hb d_M_count_62 hl rfl (nI_1 (rk_c h i)) (by decide) rfl (fun ls hl => ?_)
            refine lv_iinc (k := 2) (v := nI (i + 1)) (lv' := [(7, .int (nI (i + 1))), (4, .int (nI (rk_c h i + 1))), (3, .int ((rk_t t i) + (t i))), (6, .int (nI 0)), (5, .int (nI 0)), (2, .int (nI (rk_c (fun p => decide (0 < t p)) (i + 1)))), (0, .ref h0), (1, .int x)]) hx hb d_M_count_65 hl rfl (nI_1 i) (by decide) rfl (fun ls hl => ?_)
            refine lv_goto (tgt := 21) hx hb d_M_count_68 (by decide) ?_
            rw [← rk_c_t (f := h) (n := i) (zI_n.mp hc3)] at hl
            have hl := lv_sub (l' := [(7, .int (nI (i + 1))), (6, .int (nI 0)), (5, .int (nI 0)), (4, .int (nI (rk_c h (i + 1)))), (3, .int (rk_t t (i + 1))), (2, .int (nI (rk_c (fun p => decide (0 < t p)) (i + 1)))), (0, .ref h0), (1, .int x)]) hl [0, 3, 4, 1, 2, 5, 6, 7] rfl
            exact ih (i + 1) (by omega) (by omega) ls H locs hl hP hD hS
        · refine lv_iinc (k := 5) (v := nI (rk_c (fun p => decide (0 < t p)) i + 1)) (lv' := [(2, .int (nI (rk_c (fun p => decide (0 < t p)) i + 1))), (7, .int (nI i)), (6, .int (nI 0)), (5, .int (nI 0)), (4, .int (nI (rk_c h i))), (3, .int (rk_t t i)), (0, .ref h0), (1, .int x)]) hx hb d_M_count_39 hl rfl (nI_1 (rk_c (fun p => decide (0 < t p)) i)) (by decide) rfl (fun ls hl => ?_)
          rw [← rk_c_t (f := (fun p => decide (0 < t p))) (n := i) (decide_eq_true (Int32.not_le.mp hc2))] at hl
          refine lv_iload_n hx hb d_M_count_42 rfl (lv_at hl 5 rfl) ?_
          refine lv_aload_n hx hb d_M_count_43 rfl (lv_at hl 6 rfl) ?_
          refine va_get (D := (dC, dI)) (ci := 2) (v := .ref qt) (C := R_M) (T := F_M) (N := 9) hx hb htw u_M hown hK hP 0 rfl rfl 2 (by decide) (htw _ l_M_9) (fun _ h9 => h9) rfl d_M_count_44 ?_
          refine lv_iload hx hb d_M_count_47 (lv_at hl 1 rfl) ?_
          refine va_iald hx hb hK hP 1 0 rfl rfl (vp_in_nI (n := i) (show i < 1024 by omega) (by decide)) d_M_count_49 ?_
          refine rk_top (y := t i) (congrArg t (nI_clamp (show i < 2 ^ 31 by omega))) ?_
          refine lv_iadd hx hb d_M_count_50 ?_
          refine lv_istore_n (lv' := [(3, .int ((rk_t t i) + (t i))), (2, .int (nI (rk_c (fun p => decide (0 < t p)) (i + 1)))), (7, .int (nI i)), (6, .int (nI 0)), (5, .int (nI 0)), (4, .int (nI (rk_c h i))), (0, .ref h0), (1, .int x)]) hx hb d_M_count_51 rfl hl (by decide) rfl (fun ls hl => ?_)
          refine lv_aload_n hx hb d_M_count_52 rfl (lv_at hl 6 rfl) ?_
          refine va_get (D := (dC, dI)) (ci := 2) (v := .ref qh) (C := R_M) (T := F_M) (N := 9) hx hb htw u_M hown hK hP 0 rfl rfl 7 (by decide) (htw _ l_M_25) (fun _ h9 => h9) rfl d_M_count_53 ?_
          refine lv_iload hx hb d_M_count_56 (lv_at hl 2 rfl) ?_
          refine va_zald hx hb hK hP 2 1 rfl rfl (vp_in_nI (n := i) (show i < 1024 by omega) (by decide)) d_M_count_58 ?_
          refine rk_top (y := zI (h i)) (congrArg (fun p => zI (h p)) (nI_clamp (show i < 2 ^ 31 by omega))) ?_
          refine lv_if_eq (tgt := 65) hx hb d_M_count_59 (by decide) (fun hc3 => ?_) (fun hc3 => ?_)
          · refine lv_iinc (k := 2) (v := nI (i + 1)) (lv' := [(7, .int (nI (i + 1))), (3, .int ((rk_t t i) + (t i))), (2, .int (nI (rk_c (fun p => decide (0 < t p)) (i + 1)))), (6, .int (nI 0)), (5, .int (nI 0)), (4, .int (nI (rk_c h i))), (0, .ref h0), (1, .int x)]) hx hb d_M_count_65 hl rfl (nI_1 i) (by decide) rfl (fun ls hl => ?_)
            refine lv_goto (tgt := 21) hx hb d_M_count_68 (by decide) ?_
            rw [← rk_c_f (f := h) (n := i) (zI_0.mp hc3)] at hl
            have hl := lv_sub (l' := [(7, .int (nI (i + 1))), (6, .int (nI 0)), (5, .int (nI 0)), (4, .int (nI (rk_c h (i + 1)))), (3, .int (rk_t t (i + 1))), (2, .int (nI (rk_c (fun p => decide (0 < t p)) (i + 1)))), (0, .ref h0), (1, .int x)]) hl [0, 3, 4, 5, 1, 2, 6, 7] rfl
            exact ih (i + 1) (by omega) (by omega) ls H locs hl hP hD hS
          · refine lv_iinc (k := 5) (v := nI (rk_c h i + 1)) (lv' := [(4, .int (nI (rk_c h i + 1))), (3, .int ((rk_t t i) + (t i))), (2, .int (nI (rk_c (fun p => decide (0 < t p)) (i + 1)))), (7, .int (nI i)), (6, .int (nI 0)), (5, .int (nI 0)), (0, .ref h0), (1, .int x)]) hx hb d_M_count_62 hl rfl (nI_1 (rk_c h i)) (by decide) rfl (fun ls hl => ?_)
            refine lv_iinc (k := 3) (v := nI (i + 1)) (lv' := [(7, .int (nI (i + 1))), (4, .int (nI (rk_c h i + 1))), (3, .int ((rk_t t i) + (t i))), (2, .int (nI (rk_c (fun p => decide (0 < t p)) (i + 1)))), (6, .int (nI 0)), (5, .int (nI 0)), (0, .ref h0), (1, .int x)]) hx hb d_M_count_65 hl rfl (nI_1 i) (by decide) rfl (fun ls hl => ?_)
            refine lv_goto (tgt := 21) hx hb d_M_count_68 (by decide) ?_
            rw [← rk_c_t (f := h) (n := i) (zI_n.mp hc3)] at hl
            have hl := lv_sub (l' := [(7, .int (nI (i + 1))), (6, .int (nI 0)), (5, .int (nI 0)), (4, .int (nI (rk_c h (i + 1)))), (3, .int (rk_t t (i + 1))), (2, .int (nI (rk_c (fun p => decide (0 < t p)) (i + 1)))), (0, .ref h0), (1, .int x)]) hl [0, 4, 5, 1, 2, 3, 6, 7] rfl
            exact ih (i + 1) (by omega) (by omega) ls H locs hl hP hD hS
  have hl := lv_sub (l' := [(7, .int (nI 0)), (6, .int (nI 0)), (5, .int (nI 0)), (4, .int (nI (rk_c h 0))), (3, .int (rk_t t 0)), (2, .int (nI (rk_c (fun p => decide (0 < t p)) 0))), (0, .ref h0), (1, .int x)]) hl [0, 1, 2, 3, 4, 5, 6, 7] rfl
  exact lp 1025 0 (by omega) (by omega) ls _ _ hl hP hD hS
end
section
theorem d_K_init_0 : decode b_K_init 0 = .ok (.aload_n 0, 1) := by decide +kernel
theorem d_K_init_1 : decode b_K_init 1 = .ok (.invokespecial 1, 3) := by decide +kernel
theorem d_K_init_4 : decode b_K_init 4 = .ok (.aload_n 0, 1) := by decide +kernel
theorem d_K_init_5 : decode b_K_init 5 = .ok (.sipush 1024, 3) := by decide +kernel
theorem d_K_init_8 : decode b_K_init 8 = .ok (.newarray .int, 2) := by decide +kernel
theorem d_K_init_10 : decode b_K_init 10 = .ok (.putfield 9, 3) := by decide +kernel
theorem d_K_init_13 : decode b_K_init 13 = .ok (.aload_n 0, 1) := by decide +kernel
theorem d_K_init_14 : decode b_K_init 14 = .ok (.bipush 60, 2) := by decide +kernel
theorem d_K_init_16 : decode b_K_init 16 = .ok (.newarray .int, 2) := by decide +kernel
theorem d_K_init_18 : decode b_K_init 18 = .ok (.putfield 13, 3) := by decide +kernel
theorem d_K_init_21 : decode b_K_init 21 = .ok (.aload_n 0, 1) := by decide +kernel
theorem d_K_init_22 : decode b_K_init 22 = .ok (.sipush 1024, 3) := by decide +kernel
theorem d_K_init_25 : decode b_K_init 25 = .ok (.newarray .int, 2) := by decide +kernel
theorem d_K_init_27 : decode b_K_init 27 = .ok (.putfield 16, 3) := by decide +kernel
theorem d_K_init_30 : decode b_K_init 30 = .ok (.aload_n 0, 1) := by decide +kernel
theorem d_K_init_31 : decode b_K_init 31 = .ok (.iconst 0, 1) := by decide +kernel
theorem d_K_init_32 : decode b_K_init 32 = .ok (.putfield 19, 3) := by decide +kernel
theorem d_K_init_35 : decode b_K_init 35 = .ok (.aload_n 0, 1) := by decide +kernel
theorem d_K_init_36 : decode b_K_init 36 = .ok (.new 23, 3) := by decide +kernel
theorem d_K_init_39 : decode b_K_init 39 = .ok (.dup, 1) := by decide +kernel
theorem d_K_init_40 : decode b_K_init 40 = .ok (.invokespecial 25, 3) := by decide +kernel
theorem d_K_init_43 : decode b_K_init 43 = .ok (.putfield 26, 3) := by decide +kernel
theorem d_K_init_46 : decode b_K_init 46 = .ok (.aload_n 0, 1) := by decide +kernel
theorem d_K_init_47 : decode b_K_init 47 = .ok (.new 23, 3) := by decide +kernel
theorem d_K_init_50 : decode b_K_init 50 = .ok (.dup, 1) := by decide +kernel
theorem d_K_init_51 : decode b_K_init 51 = .ok (.invokespecial 25, 3) := by decide +kernel
theorem d_K_init_54 : decode b_K_init 54 = .ok (.putfield 30, 3) := by decide +kernel
theorem d_K_init_57 : decode b_K_init 57 = .ok (.aload_n 0, 1) := by decide +kernel
theorem d_K_init_58 : decode b_K_init 58 = .ok (.new 23, 3) := by decide +kernel
theorem d_K_init_61 : decode b_K_init 61 = .ok (.dup, 1) := by decide +kernel
theorem d_K_init_62 : decode b_K_init 62 = .ok (.invokespecial 25, 3) := by decide +kernel
theorem d_K_init_65 : decode b_K_init 65 = .ok (.putfield 33, 3) := by decide +kernel
theorem d_K_init_68 : decode b_K_init 68 = .ok (.aload_n 0, 1) := by decide +kernel
theorem d_K_init_69 : decode b_K_init 69 = .ok (.new 23, 3) := by decide +kernel
theorem d_K_init_72 : decode b_K_init 72 = .ok (.dup, 1) := by decide +kernel
theorem d_K_init_73 : decode b_K_init 73 = .ok (.invokespecial 25, 3) := by decide +kernel
theorem d_K_init_76 : decode b_K_init 76 = .ok (.putfield 36, 3) := by decide +kernel
theorem d_K_init_79 : decode b_K_init 79 = .ok (.aload_n 0, 1) := by decide +kernel
theorem d_K_init_80 : decode b_K_init 80 = .ok (.new 23, 3) := by decide +kernel
theorem d_K_init_83 : decode b_K_init 83 = .ok (.dup, 1) := by decide +kernel
theorem d_K_init_84 : decode b_K_init 84 = .ok (.invokespecial 25, 3) := by decide +kernel
theorem d_K_init_87 : decode b_K_init 87 = .ok (.putfield 39, 3) := by decide +kernel
theorem d_K_init_90 : decode b_K_init 90 = .ok (.return_, 1) := by decide +kernel
theorem d_K_change_0 : decode b_K_change 0 = .ok (.iload_n 1, 1) := by decide +kernel
theorem d_K_change_1 : decode b_K_change 1 = .ok (.iload_n 2, 1) := by decide +kernel
theorem d_K_change_2 : decode b_K_change 2 = .ok (.invokestatic 42, 3) := by decide +kernel
theorem d_K_change_5 : decode b_K_change 5 = .ok (.aload_n 0, 1) := by decide +kernel
theorem d_K_change_6 : decode b_K_change 6 = .ok (.getfield 19, 3) := by decide +kernel
theorem d_K_change_9 : decode b_K_change 9 = .ok (.bipush 60, 2) := by decide +kernel
theorem d_K_change_11 : decode b_K_change 11 = .ok (.if_icmp .lt 13, 3) := by decide +kernel
theorem d_K_change_14 : decode b_K_change 14 = .ok (.new 46, 3) := by decide +kernel
theorem d_K_change_17 : decode b_K_change 17 = .ok (.dup, 1) := by decide +kernel
theorem d_K_change_18 : decode b_K_change 18 = .ok (.ldc 48, 2) := by decide +kernel
theorem d_K_change_20 : decode b_K_change 20 = .ok (.invokespecial 50, 3) := by decide +kernel
theorem d_K_change_23 : decode b_K_change 23 = .ok (.athrow, 1) := by decide +kernel
theorem d_K_change_24 : decode b_K_change 24 = .ok (.iload_n 1, 1) := by decide +kernel
theorem d_K_change_25 : decode b_K_change 25 = .ok (.iload_n 2, 1) := by decide +kernel
theorem d_K_change_26 : decode b_K_change 26 = .ok (.invokestatic 53, 3) := by decide +kernel
theorem d_K_change_29 : decode b_K_change 29 = .ok (.istore 4, 2) := by decide +kernel
theorem d_K_change_31 : decode b_K_change 31 = .ok (.aload_n 0, 1) := by decide +kernel
theorem d_K_change_32 : decode b_K_change 32 = .ok (.getfield 13, 3) := by decide +kernel
theorem d_K_change_35 : decode b_K_change 35 = .ok (.aload_n 0, 1) := by decide +kernel
theorem d_K_change_36 : decode b_K_change 36 = .ok (.getfield 19, 3) := by decide +kernel
theorem d_K_change_39 : decode b_K_change 39 = .ok (.iload 4, 2) := by decide +kernel
theorem d_K_change_41 : decode b_K_change 41 = .ok (.iastore, 1) := by decide +kernel
theorem d_K_change_42 : decode b_K_change 42 = .ok (.aload_n 0, 1) := by decide +kernel
theorem d_K_change_43 : decode b_K_change 43 = .ok (.getfield 16, 3) := by decide +kernel
theorem d_K_change_46 : decode b_K_change 46 = .ok (.iload 4, 2) := by decide +kernel
theorem d_K_change_48 : decode b_K_change 48 = .ok (.dup2, 1) := by decide +kernel
theorem d_K_change_49 : decode b_K_change 49 = .ok (.iaload, 1) := by decide +kernel
theorem d_K_change_50 : decode b_K_change 50 = .ok (.iload_n 3, 1) := by decide +kernel
theorem d_K_change_51 : decode b_K_change 51 = .ok (.ifCond .eq 7, 3) := by decide +kernel
theorem d_K_change_54 : decode b_K_change 54 = .ok (.iconst 1, 1) := by decide +kernel
theorem d_K_change_55 : decode b_K_change 55 = .ok (.goto 4, 3) := by decide +kernel
theorem d_K_change_58 : decode b_K_change 58 = .ok (.iconst (-1), 1) := by decide +kernel
theorem d_K_change_59 : decode b_K_change 59 = .ok (.iadd, 1) := by decide +kernel
theorem d_K_change_60 : decode b_K_change 60 = .ok (.iastore, 1) := by decide +kernel
theorem d_K_change_61 : decode b_K_change 61 = .ok (.aload_n 0, 1) := by decide +kernel
theorem d_K_change_62 : decode b_K_change 62 = .ok (.dup, 1) := by decide +kernel
theorem d_K_change_63 : decode b_K_change 63 = .ok (.getfield 19, 3) := by decide +kernel
theorem d_K_change_66 : decode b_K_change 66 = .ok (.iconst 1, 1) := by decide +kernel
theorem d_K_change_67 : decode b_K_change 67 = .ok (.iadd, 1) := by decide +kernel
theorem d_K_change_68 : decode b_K_change 68 = .ok (.putfield 19, 3) := by decide +kernel
theorem d_K_change_71 : decode b_K_change 71 = .ok (.aload_n 0, 1) := by decide +kernel
theorem d_K_change_72 : decode b_K_change 72 = .ok (.getfield 19, 3) := by decide +kernel
theorem d_K_change_75 : decode b_K_change 75 = .ok (.ireturn, 1) := by decide +kernel
theorem d_K_forget_0 : decode b_K_forget 0 = .ok (.aload_n 0, 1) := by decide +kernel
theorem d_K_forget_1 : decode b_K_forget 1 = .ok (.getfield 19, 3) := by decide +kernel
theorem d_K_forget_4 : decode b_K_forget 4 = .ok (.istore_n 1, 1) := by decide +kernel
theorem d_K_forget_5 : decode b_K_forget 5 = .ok (.aload_n 0, 1) := by decide +kernel
theorem d_K_forget_6 : decode b_K_forget 6 = .ok (.invokevirtual 57, 3) := by decide +kernel
theorem d_K_forget_9 : decode b_K_forget 9 = .ok (.iload_n 1, 1) := by decide +kernel
theorem d_K_forget_10 : decode b_K_forget 10 = .ok (.ireturn, 1) := by decide +kernel
theorem d_K_apply_0 : decode b_K_apply 0 = .ok (.aload_n 0, 1) := by decide +kernel
theorem d_K_apply_1 : decode b_K_apply 1 = .ok (.invokevirtual 60, 3) := by decide +kernel
theorem d_K_apply_4 : decode b_K_apply 4 = .ok (.ifCond .eq 13, 3) := by decide +kernel
theorem d_K_apply_7 : decode b_K_apply 7 = .ok (.new 64, 3) := by decide +kernel
theorem d_K_apply_10 : decode b_K_apply 10 = .ok (.dup, 1) := by decide +kernel
theorem d_K_apply_11 : decode b_K_apply 11 = .ok (.ldc 66, 2) := by decide +kernel
theorem d_K_apply_13 : decode b_K_apply 13 = .ok (.invokespecial 68, 3) := by decide +kernel
theorem d_K_apply_16 : decode b_K_apply 16 = .ok (.athrow, 1) := by decide +kernel
theorem d_K_apply_17 : decode b_K_apply 17 = .ok (.aload_n 0, 1) := by decide +kernel
theorem d_K_apply_18 : decode b_K_apply 18 = .ok (.invokevirtual 69, 3) := by decide +kernel
theorem d_K_apply_21 : decode b_K_apply 21 = .ok (.aload_n 0, 1) := by decide +kernel
theorem d_K_apply_22 : decode b_K_apply 22 = .ok (.invokevirtual 57, 3) := by decide +kernel
theorem d_K_apply_25 : decode b_K_apply 25 = .ok (.aload_n 0, 1) := by decide +kernel
theorem d_K_apply_26 : decode b_K_apply 26 = .ok (.invokevirtual 72, 3) := by decide +kernel
theorem d_K_apply_29 : decode b_K_apply 29 = .ok (.aload_n 0, 1) := by decide +kernel
theorem d_K_apply_30 : decode b_K_apply 30 = .ok (.getfield 36, 3) := by decide +kernel
theorem d_K_apply_33 : decode b_K_apply 33 = .ok (.invokevirtual 75, 3) := by decide +kernel
theorem d_K_apply_36 : decode b_K_apply 36 = .ok (.aload_n 0, 1) := by decide +kernel
theorem d_K_apply_37 : decode b_K_apply 37 = .ok (.getfield 39, 3) := by decide +kernel
theorem d_K_apply_40 : decode b_K_apply 40 = .ok (.invokevirtual 75, 3) := by decide +kernel
theorem d_K_apply_43 : decode b_K_apply 43 = .ok (.iadd, 1) := by decide +kernel
theorem d_K_apply_44 : decode b_K_apply 44 = .ok (.ireturn, 1) := by decide +kernel
theorem d_K_holds_0 : decode b_K_holds 0 = .ok (.iload_n 1, 1) := by decide +kernel
theorem d_K_holds_1 : decode b_K_holds 1 = .ok (.iload_n 2, 1) := by decide +kernel
theorem d_K_holds_2 : decode b_K_holds 2 = .ok (.invokestatic 42, 3) := by decide +kernel
theorem d_K_holds_5 : decode b_K_holds 5 = .ok (.aload_n 0, 1) := by decide +kernel
theorem d_K_holds_6 : decode b_K_holds 6 = .ok (.getfield 30, 3) := by decide +kernel
theorem d_K_holds_9 : decode b_K_holds 9 = .ok (.iload_n 1, 1) := by decide +kernel
theorem d_K_holds_10 : decode b_K_holds 10 = .ok (.iload_n 2, 1) := by decide +kernel
theorem d_K_holds_11 : decode b_K_holds 11 = .ok (.invokevirtual 79, 3) := by decide +kernel
theorem d_K_holds_14 : decode b_K_holds 14 = .ok (.ireturn, 1) := by decide +kernel
theorem d_K_came_0 : decode b_K_came 0 = .ok (.aload_n 0, 1) := by decide +kernel
theorem d_K_came_1 : decode b_K_came 1 = .ok (.getfield 36, 3) := by decide +kernel
theorem d_K_came_4 : decode b_K_came 4 = .ok (.iload_n 1, 1) := by decide +kernel
theorem d_K_came_5 : decode b_K_came 5 = .ok (.invokevirtual 83, 3) := by decide +kernel
theorem d_K_came_8 : decode b_K_came 8 = .ok (.invokestatic 87, 3) := by decide +kernel
theorem d_K_came_11 : decode b_K_came 11 = .ok (.ireturn, 1) := by decide +kernel
theorem d_K_went_0 : decode b_K_went 0 = .ok (.aload_n 0, 1) := by decide +kernel
theorem d_K_went_1 : decode b_K_went 1 = .ok (.getfield 39, 3) := by decide +kernel
theorem d_K_went_4 : decode b_K_went 4 = .ok (.iload_n 1, 1) := by decide +kernel
theorem d_K_went_5 : decode b_K_went 5 = .ok (.invokevirtual 83, 3) := by decide +kernel
theorem d_K_went_8 : decode b_K_went 8 = .ok (.invokestatic 87, 3) := by decide +kernel
theorem d_K_went_11 : decode b_K_went 11 = .ok (.ireturn, 1) := by decide +kernel
theorem d_K_distance_0 : decode b_K_distance 0 = .ok (.iload_n 1, 1) := by decide +kernel
theorem d_K_distance_1 : decode b_K_distance 1 = .ok (.iload_n 2, 1) := by decide +kernel
theorem d_K_distance_2 : decode b_K_distance 2 = .ok (.invokestatic 42, 3) := by decide +kernel
theorem d_K_distance_5 : decode b_K_distance 5 = .ok (.aload_n 0, 1) := by decide +kernel
theorem d_K_distance_6 : decode b_K_distance 6 = .ok (.getfield 26, 3) := by decide +kernel
theorem d_K_distance_9 : decode b_K_distance 9 = .ok (.iload_n 1, 1) := by decide +kernel
theorem d_K_distance_10 : decode b_K_distance 10 = .ok (.iload_n 2, 1) := by decide +kernel
theorem d_K_distance_11 : decode b_K_distance 11 = .ok (.invokevirtual 90, 3) := by decide +kernel
theorem d_K_distance_14 : decode b_K_distance 14 = .ok (.istore_n 3, 1) := by decide +kernel
theorem d_K_distance_15 : decode b_K_distance 15 = .ok (.iload_n 3, 1) := by decide +kernel
theorem d_K_distance_16 : decode b_K_distance 16 = .ok (.iconst (-1), 1) := by decide +kernel
theorem d_K_distance_17 : decode b_K_distance 17 = .ok (.if_icmp .ne 13, 3) := by decide +kernel
theorem d_K_distance_20 : decode b_K_distance 20 = .ok (.new 93, 3) := by decide +kernel
theorem d_K_distance_23 : decode b_K_distance 23 = .ok (.dup, 1) := by decide +kernel
theorem d_K_distance_24 : decode b_K_distance 24 = .ok (.ldc 95, 2) := by decide +kernel
theorem d_K_distance_26 : decode b_K_distance 26 = .ok (.invokespecial 97, 3) := by decide +kernel
theorem d_K_distance_29 : decode b_K_distance 29 = .ok (.athrow, 1) := by decide +kernel
theorem d_K_distance_30 : decode b_K_distance 30 = .ok (.iload_n 3, 1) := by decide +kernel
theorem d_K_distance_31 : decode b_K_distance 31 = .ok (.ireturn, 1) := by decide +kernel
theorem d_K_times_0 : decode b_K_times 0 = .ok (.iload_n 1, 1) := by decide +kernel
theorem d_K_times_1 : decode b_K_times 1 = .ok (.iload_n 2, 1) := by decide +kernel
theorem d_K_times_2 : decode b_K_times 2 = .ok (.invokestatic 42, 3) := by decide +kernel
theorem d_K_times_5 : decode b_K_times 5 = .ok (.aload_n 0, 1) := by decide +kernel
theorem d_K_times_6 : decode b_K_times 6 = .ok (.getfield 9, 3) := by decide +kernel
theorem d_K_times_9 : decode b_K_times 9 = .ok (.iload_n 1, 1) := by decide +kernel
theorem d_K_times_10 : decode b_K_times 10 = .ok (.iload_n 2, 1) := by decide +kernel
theorem d_K_times_11 : decode b_K_times 11 = .ok (.invokestatic 53, 3) := by decide +kernel
theorem d_K_times_14 : decode b_K_times 14 = .ok (.iaload, 1) := by decide +kernel
theorem d_K_times_15 : decode b_K_times 15 = .ok (.ireturn, 1) := by decide +kernel
theorem d_K_count_0 : decode b_K_count 0 = .ok (.iload_n 1, 1) := by decide +kernel
theorem d_K_count_1 : decode b_K_count 1 = .ok (.tableswitch 105 0 7 #[47, 55, 60, 68, 73, 81, 89, 97], 47) := by decide +kernel
theorem d_K_count_48 : decode b_K_count 48 = .ok (.aload_n 0, 1) := by decide +kernel
theorem d_K_count_49 : decode b_K_count 49 = .ok (.getfield 26, 3) := by decide +kernel
theorem d_K_count_52 : decode b_K_count 52 = .ok (.invokevirtual 75, 3) := by decide +kernel
theorem d_K_count_55 : decode b_K_count 55 = .ok (.ireturn, 1) := by decide +kernel
theorem d_K_count_56 : decode b_K_count 56 = .ok (.aload_n 0, 1) := by decide +kernel
theorem d_K_count_57 : decode b_K_count 57 = .ok (.invokevirtual 98, 3) := by decide +kernel
theorem d_K_count_60 : decode b_K_count 60 = .ok (.ireturn, 1) := by decide +kernel
theorem d_K_count_61 : decode b_K_count 61 = .ok (.aload_n 0, 1) := by decide +kernel
theorem d_K_count_62 : decode b_K_count 62 = .ok (.getfield 30, 3) := by decide +kernel
theorem d_K_count_65 : decode b_K_count 65 = .ok (.invokevirtual 75, 3) := by decide +kernel
theorem d_K_count_68 : decode b_K_count 68 = .ok (.ireturn, 1) := by decide +kernel
theorem d_K_count_69 : decode b_K_count 69 = .ok (.aload_n 0, 1) := by decide +kernel
theorem d_K_count_70 : decode b_K_count 70 = .ok (.getfield 19, 3) := by decide +kernel
theorem d_K_count_73 : decode b_K_count 73 = .ok (.ireturn, 1) := by decide +kernel
theorem d_K_count_74 : decode b_K_count 74 = .ok (.aload_n 0, 1) := by decide +kernel
theorem d_K_count_75 : decode b_K_count 75 = .ok (.getfield 36, 3) := by decide +kernel
theorem d_K_count_78 : decode b_K_count 78 = .ok (.invokevirtual 75, 3) := by decide +kernel
theorem d_K_count_81 : decode b_K_count 81 = .ok (.ireturn, 1) := by decide +kernel
theorem d_K_count_82 : decode b_K_count 82 = .ok (.aload_n 0, 1) := by decide +kernel
theorem d_K_count_83 : decode b_K_count 83 = .ok (.getfield 39, 3) := by decide +kernel
theorem d_K_count_86 : decode b_K_count 86 = .ok (.invokevirtual 75, 3) := by decide +kernel
theorem d_K_count_89 : decode b_K_count 89 = .ok (.ireturn, 1) := by decide +kernel
theorem d_K_count_90 : decode b_K_count 90 = .ok (.aload_n 0, 1) := by decide +kernel
theorem d_K_count_91 : decode b_K_count 91 = .ok (.getfield 30, 3) := by decide +kernel
theorem d_K_count_94 : decode b_K_count 94 = .ok (.invokevirtual 101, 3) := by decide +kernel
theorem d_K_count_97 : decode b_K_count 97 = .ok (.ireturn, 1) := by decide +kernel
theorem d_K_count_98 : decode b_K_count 98 = .ok (.aload_n 0, 1) := by decide +kernel
theorem d_K_count_99 : decode b_K_count 99 = .ok (.getfield 30, 3) := by decide +kernel
theorem d_K_count_102 : decode b_K_count 102 = .ok (.invokevirtual 104, 3) := by decide +kernel
theorem d_K_count_105 : decode b_K_count 105 = .ok (.ireturn, 1) := by decide +kernel
theorem d_K_count_106 : decode b_K_count 106 = .ok (.iconst (-1), 1) := by decide +kernel
theorem d_K_count_107 : decode b_K_count 107 = .ok (.ireturn, 1) := by decide +kernel
theorem d_K_isVertex_0 : decode b_K_isVertex 0 = .ok (.iload_n 0, 1) := by decide +kernel
theorem d_K_isVertex_1 : decode b_K_isVertex 1 = .ok (.ifCond .lt 13, 3) := by decide +kernel
theorem d_K_isVertex_4 : decode b_K_isVertex 4 = .ok (.iload_n 0, 1) := by decide +kernel
theorem d_K_isVertex_5 : decode b_K_isVertex 5 = .ok (.bipush 32, 2) := by decide +kernel
theorem d_K_isVertex_7 : decode b_K_isVertex 7 = .ok (.if_icmp .ge 7, 3) := by decide +kernel
theorem d_K_isVertex_10 : decode b_K_isVertex 10 = .ok (.iconst 1, 1) := by decide +kernel
theorem d_K_isVertex_11 : decode b_K_isVertex 11 = .ok (.goto 4, 3) := by decide +kernel
theorem d_K_isVertex_14 : decode b_K_isVertex 14 = .ok (.iconst 0, 1) := by decide +kernel
theorem d_K_isVertex_15 : decode b_K_isVertex 15 = .ok (.ireturn, 1) := by decide +kernel
theorem d_K_requireVertices_0 : decode b_K_requireVertices 0 = .ok (.iload_n 0, 1) := by decide +kernel
theorem d_K_requireVertices_1 : decode b_K_requireVertices 1 = .ok (.invokestatic 107, 3) := by decide +kernel
theorem d_K_requireVertices_4 : decode b_K_requireVertices 4 = .ok (.ifCond .eq 10, 3) := by decide +kernel
theorem d_K_requireVertices_7 : decode b_K_requireVertices 7 = .ok (.iload_n 1, 1) := by decide +kernel
theorem d_K_requireVertices_8 : decode b_K_requireVertices 8 = .ok (.invokestatic 107, 3) := by decide +kernel
theorem d_K_requireVertices_11 : decode b_K_requireVertices 11 = .ok (.ifCond .ne 13, 3) := by decide +kernel
theorem d_K_requireVertices_14 : decode b_K_requireVertices 14 = .ok (.new 111, 3) := by decide +kernel
theorem d_K_requireVertices_17 : decode b_K_requireVertices 17 = .ok (.dup, 1) := by decide +kernel
theorem d_K_requireVertices_18 : decode b_K_requireVertices 18 = .ok (.ldc 113, 2) := by decide +kernel
theorem d_K_requireVertices_20 : decode b_K_requireVertices 20 = .ok (.invokespecial 115, 3) := by decide +kernel
theorem d_K_requireVertices_23 : decode b_K_requireVertices 23 = .ok (.athrow, 1) := by decide +kernel
theorem d_K_requireVertices_24 : decode b_K_requireVertices 24 = .ok (.return_, 1) := by decide +kernel
theorem d_K_requirePair_0 : decode b_K_requirePair 0 = .ok (.iload_n 0, 1) := by decide +kernel
theorem d_K_requirePair_1 : decode b_K_requirePair 1 = .ok (.iconst (-1), 1) := by decide +kernel
theorem d_K_requirePair_2 : decode b_K_requirePair 2 = .ok (.if_icmp .ne 13, 3) := by decide +kernel
theorem d_K_requirePair_5 : decode b_K_requirePair 5 = .ok (.new 93, 3) := by decide +kernel
theorem d_K_requirePair_8 : decode b_K_requirePair 8 = .ok (.dup, 1) := by decide +kernel
theorem d_K_requirePair_9 : decode b_K_requirePair 9 = .ok (.ldc 116, 2) := by decide +kernel
theorem d_K_requirePair_11 : decode b_K_requirePair 11 = .ok (.invokespecial 97, 3) := by decide +kernel
theorem d_K_requirePair_14 : decode b_K_requirePair 14 = .ok (.athrow, 1) := by decide +kernel
theorem d_K_requirePair_15 : decode b_K_requirePair 15 = .ok (.iload_n 0, 1) := by decide +kernel
theorem d_K_requirePair_16 : decode b_K_requirePair 16 = .ok (.ireturn, 1) := by decide +kernel
theorem d_K_numberOf_0 : decode b_K_numberOf 0 = .ok (.bipush 32, 2) := by decide +kernel
theorem d_K_numberOf_2 : decode b_K_numberOf 2 = .ok (.iload_n 0, 1) := by decide +kernel
theorem d_K_numberOf_3 : decode b_K_numberOf 3 = .ok (.imul, 1) := by decide +kernel
theorem d_K_numberOf_4 : decode b_K_numberOf 4 = .ok (.iload_n 1, 1) := by decide +kernel
theorem d_K_numberOf_5 : decode b_K_numberOf 5 = .ok (.iadd, 1) := by decide +kernel
theorem d_K_numberOf_6 : decode b_K_numberOf 6 = .ok (.ireturn, 1) := by decide +kernel
theorem d_K_gatheredConflicts_0 : decode b_K_gatheredConflicts 0 = .ok (.iconst 0, 1) := by decide +kernel
theorem d_K_gatheredConflicts_1 : decode b_K_gatheredConflicts 1 = .ok (.istore_n 1, 1) := by decide +kernel
theorem d_K_gatheredConflicts_2 : decode b_K_gatheredConflicts 2 = .ok (.iload_n 1, 1) := by decide +kernel
theorem d_K_gatheredConflicts_3 : decode b_K_gatheredConflicts 3 = .ok (.aload_n 0, 1) := by decide +kernel
theorem d_K_gatheredConflicts_4 : decode b_K_gatheredConflicts 4 = .ok (.getfield 19, 3) := by decide +kernel
theorem d_K_gatheredConflicts_7 : decode b_K_gatheredConflicts 7 = .ok (.if_icmp .ge 34, 3) := by decide +kernel
theorem d_K_gatheredConflicts_10 : decode b_K_gatheredConflicts 10 = .ok (.aload_n 0, 1) := by decide +kernel
theorem d_K_gatheredConflicts_11 : decode b_K_gatheredConflicts 11 = .ok (.getfield 13, 3) := by decide +kernel
theorem d_K_gatheredConflicts_14 : decode b_K_gatheredConflicts 14 = .ok (.iload_n 1, 1) := by decide +kernel
theorem d_K_gatheredConflicts_15 : decode b_K_gatheredConflicts 15 = .ok (.iaload, 1) := by decide +kernel
theorem d_K_gatheredConflicts_16 : decode b_K_gatheredConflicts 16 = .ok (.istore_n 2, 1) := by decide +kernel
theorem d_K_gatheredConflicts_17 : decode b_K_gatheredConflicts 17 = .ok (.aload_n 0, 1) := by decide +kernel
theorem d_K_gatheredConflicts_18 : decode b_K_gatheredConflicts 18 = .ok (.getfield 9, 3) := by decide +kernel
theorem d_K_gatheredConflicts_21 : decode b_K_gatheredConflicts 21 = .ok (.iload_n 2, 1) := by decide +kernel
theorem d_K_gatheredConflicts_22 : decode b_K_gatheredConflicts 22 = .ok (.iaload, 1) := by decide +kernel
theorem d_K_gatheredConflicts_23 : decode b_K_gatheredConflicts 23 = .ok (.aload_n 0, 1) := by decide +kernel
theorem d_K_gatheredConflicts_24 : decode b_K_gatheredConflicts 24 = .ok (.getfield 16, 3) := by decide +kernel
theorem d_K_gatheredConflicts_27 : decode b_K_gatheredConflicts 27 = .ok (.iload_n 2, 1) := by decide +kernel
theorem d_K_gatheredConflicts_28 : decode b_K_gatheredConflicts 28 = .ok (.iaload, 1) := by decide +kernel
theorem d_K_gatheredConflicts_29 : decode b_K_gatheredConflicts 29 = .ok (.iadd, 1) := by decide +kernel
theorem d_K_gatheredConflicts_30 : decode b_K_gatheredConflicts 30 = .ok (.ifCond .ge 5, 3) := by decide +kernel
theorem d_K_gatheredConflicts_33 : decode b_K_gatheredConflicts 33 = .ok (.iconst 1, 1) := by decide +kernel
theorem d_K_gatheredConflicts_34 : decode b_K_gatheredConflicts 34 = .ok (.ireturn, 1) := by decide +kernel
theorem d_K_gatheredConflicts_35 : decode b_K_gatheredConflicts 35 = .ok (.iinc 1 1, 3) := by decide +kernel
theorem d_K_gatheredConflicts_38 : decode b_K_gatheredConflicts 38 = .ok (.goto (-36), 3) := by decide +kernel
theorem d_K_gatheredConflicts_41 : decode b_K_gatheredConflicts 41 = .ok (.iconst 0, 1) := by decide +kernel
theorem d_K_gatheredConflicts_42 : decode b_K_gatheredConflicts 42 = .ok (.ireturn, 1) := by decide +kernel
theorem d_K_addGatheredToCounts_0 : decode b_K_addGatheredToCounts 0 = .ok (.iconst 0, 1) := by decide +kernel
theorem d_K_addGatheredToCounts_1 : decode b_K_addGatheredToCounts 1 = .ok (.istore_n 1, 1) := by decide +kernel
theorem d_K_addGatheredToCounts_2 : decode b_K_addGatheredToCounts 2 = .ok (.iload_n 1, 1) := by decide +kernel
theorem d_K_addGatheredToCounts_3 : decode b_K_addGatheredToCounts 3 = .ok (.aload_n 0, 1) := by decide +kernel
theorem d_K_addGatheredToCounts_4 : decode b_K_addGatheredToCounts 4 = .ok (.getfield 19, 3) := by decide +kernel
theorem d_K_addGatheredToCounts_7 : decode b_K_addGatheredToCounts 7 = .ok (.if_icmp .ge 67, 3) := by decide +kernel
theorem d_K_addGatheredToCounts_10 : decode b_K_addGatheredToCounts 10 = .ok (.aload_n 0, 1) := by decide +kernel
theorem d_K_addGatheredToCounts_11 : decode b_K_addGatheredToCounts 11 = .ok (.getfield 13, 3) := by decide +kernel
theorem d_K_addGatheredToCounts_14 : decode b_K_addGatheredToCounts 14 = .ok (.iload_n 1, 1) := by decide +kernel
theorem d_K_addGatheredToCounts_15 : decode b_K_addGatheredToCounts 15 = .ok (.iaload, 1) := by decide +kernel
theorem d_K_addGatheredToCounts_16 : decode b_K_addGatheredToCounts 16 = .ok (.istore_n 2, 1) := by decide +kernel
theorem d_K_addGatheredToCounts_17 : decode b_K_addGatheredToCounts 17 = .ok (.aload_n 0, 1) := by decide +kernel
theorem d_K_addGatheredToCounts_18 : decode b_K_addGatheredToCounts 18 = .ok (.getfield 9, 3) := by decide +kernel
theorem d_K_addGatheredToCounts_21 : decode b_K_addGatheredToCounts 21 = .ok (.iload_n 2, 1) := by decide +kernel
theorem d_K_addGatheredToCounts_22 : decode b_K_addGatheredToCounts 22 = .ok (.dup2, 1) := by decide +kernel
theorem d_K_addGatheredToCounts_23 : decode b_K_addGatheredToCounts 23 = .ok (.iaload, 1) := by decide +kernel
theorem d_K_addGatheredToCounts_24 : decode b_K_addGatheredToCounts 24 = .ok (.aload_n 0, 1) := by decide +kernel
theorem d_K_addGatheredToCounts_25 : decode b_K_addGatheredToCounts 25 = .ok (.getfield 16, 3) := by decide +kernel
theorem d_K_addGatheredToCounts_28 : decode b_K_addGatheredToCounts 28 = .ok (.iload_n 2, 1) := by decide +kernel
theorem d_K_addGatheredToCounts_29 : decode b_K_addGatheredToCounts 29 = .ok (.iaload, 1) := by decide +kernel
theorem d_K_addGatheredToCounts_30 : decode b_K_addGatheredToCounts 30 = .ok (.iadd, 1) := by decide +kernel
theorem d_K_addGatheredToCounts_31 : decode b_K_addGatheredToCounts 31 = .ok (.iastore, 1) := by decide +kernel
theorem d_K_addGatheredToCounts_32 : decode b_K_addGatheredToCounts 32 = .ok (.aload_n 0, 1) := by decide +kernel
theorem d_K_addGatheredToCounts_33 : decode b_K_addGatheredToCounts 33 = .ok (.getfield 16, 3) := by decide +kernel
theorem d_K_addGatheredToCounts_36 : decode b_K_addGatheredToCounts 36 = .ok (.iload_n 2, 1) := by decide +kernel
theorem d_K_addGatheredToCounts_37 : decode b_K_addGatheredToCounts 37 = .ok (.iconst 0, 1) := by decide +kernel
theorem d_K_addGatheredToCounts_38 : decode b_K_addGatheredToCounts 38 = .ok (.iastore, 1) := by decide +kernel
theorem d_K_addGatheredToCounts_39 : decode b_K_addGatheredToCounts 39 = .ok (.aload_n 0, 1) := by decide +kernel
theorem d_K_addGatheredToCounts_40 : decode b_K_addGatheredToCounts 40 = .ok (.getfield 26, 3) := by decide +kernel
theorem d_K_addGatheredToCounts_43 : decode b_K_addGatheredToCounts 43 = .ok (.iload_n 2, 1) := by decide +kernel
theorem d_K_addGatheredToCounts_44 : decode b_K_addGatheredToCounts 44 = .ok (.bipush 32, 2) := by decide +kernel
theorem d_K_addGatheredToCounts_46 : decode b_K_addGatheredToCounts 46 = .ok (.idiv, 1) := by decide +kernel
theorem d_K_addGatheredToCounts_47 : decode b_K_addGatheredToCounts 47 = .ok (.iload_n 2, 1) := by decide +kernel
theorem d_K_addGatheredToCounts_48 : decode b_K_addGatheredToCounts 48 = .ok (.bipush 32, 2) := by decide +kernel
theorem d_K_addGatheredToCounts_50 : decode b_K_addGatheredToCounts 50 = .ok (.irem, 1) := by decide +kernel
theorem d_K_addGatheredToCounts_51 : decode b_K_addGatheredToCounts 51 = .ok (.aload_n 0, 1) := by decide +kernel
theorem d_K_addGatheredToCounts_52 : decode b_K_addGatheredToCounts 52 = .ok (.getfield 9, 3) := by decide +kernel
theorem d_K_addGatheredToCounts_55 : decode b_K_addGatheredToCounts 55 = .ok (.iload_n 2, 1) := by decide +kernel
theorem d_K_addGatheredToCounts_56 : decode b_K_addGatheredToCounts 56 = .ok (.iaload, 1) := by decide +kernel
theorem d_K_addGatheredToCounts_57 : decode b_K_addGatheredToCounts 57 = .ok (.ifCond .le 7, 3) := by decide +kernel
theorem d_K_addGatheredToCounts_60 : decode b_K_addGatheredToCounts 60 = .ok (.iconst 1, 1) := by decide +kernel
theorem d_K_addGatheredToCounts_61 : decode b_K_addGatheredToCounts 61 = .ok (.goto 4, 3) := by decide +kernel
theorem d_K_addGatheredToCounts_64 : decode b_K_addGatheredToCounts 64 = .ok (.iconst 0, 1) := by decide +kernel
theorem d_K_addGatheredToCounts_65 : decode b_K_addGatheredToCounts 65 = .ok (.invokevirtual 118, 3) := by decide +kernel
theorem d_K_addGatheredToCounts_68 : decode b_K_addGatheredToCounts 68 = .ok (.iinc 1 1, 3) := by decide +kernel
theorem d_K_addGatheredToCounts_71 : decode b_K_addGatheredToCounts 71 = .ok (.goto (-69), 3) := by decide +kernel
theorem d_K_addGatheredToCounts_74 : decode b_K_addGatheredToCounts 74 = .ok (.return_, 1) := by decide +kernel
theorem d_K_clearGathered_0 : decode b_K_clearGathered 0 = .ok (.iconst 0, 1) := by decide +kernel
theorem d_K_clearGathered_1 : decode b_K_clearGathered 1 = .ok (.istore_n 1, 1) := by decide +kernel
theorem d_K_clearGathered_2 : decode b_K_clearGathered 2 = .ok (.iload_n 1, 1) := by decide +kernel
theorem d_K_clearGathered_3 : decode b_K_clearGathered 3 = .ok (.aload_n 0, 1) := by decide +kernel
theorem d_K_clearGathered_4 : decode b_K_clearGathered 4 = .ok (.getfield 19, 3) := by decide +kernel
theorem d_K_clearGathered_7 : decode b_K_clearGathered 7 = .ok (.if_icmp .ge 21, 3) := by decide +kernel
theorem d_K_clearGathered_10 : decode b_K_clearGathered 10 = .ok (.aload_n 0, 1) := by decide +kernel
theorem d_K_clearGathered_11 : decode b_K_clearGathered 11 = .ok (.getfield 16, 3) := by decide +kernel
theorem d_K_clearGathered_14 : decode b_K_clearGathered 14 = .ok (.aload_n 0, 1) := by decide +kernel
theorem d_K_clearGathered_15 : decode b_K_clearGathered 15 = .ok (.getfield 13, 3) := by decide +kernel
theorem d_K_clearGathered_18 : decode b_K_clearGathered 18 = .ok (.iload_n 1, 1) := by decide +kernel
theorem d_K_clearGathered_19 : decode b_K_clearGathered 19 = .ok (.iaload, 1) := by decide +kernel
theorem d_K_clearGathered_20 : decode b_K_clearGathered 20 = .ok (.iconst 0, 1) := by decide +kernel
theorem d_K_clearGathered_21 : decode b_K_clearGathered 21 = .ok (.iastore, 1) := by decide +kernel
theorem d_K_clearGathered_22 : decode b_K_clearGathered 22 = .ok (.iinc 1 1, 3) := by decide +kernel
theorem d_K_clearGathered_25 : decode b_K_clearGathered 25 = .ok (.goto (-23), 3) := by decide +kernel
theorem d_K_clearGathered_28 : decode b_K_clearGathered 28 = .ok (.aload_n 0, 1) := by decide +kernel
theorem d_K_clearGathered_29 : decode b_K_clearGathered 29 = .ok (.iconst 0, 1) := by decide +kernel
theorem d_K_clearGathered_30 : decode b_K_clearGathered 30 = .ok (.putfield 19, 3) := by decide +kernel
theorem d_K_clearGathered_33 : decode b_K_clearGathered 33 = .ok (.return_, 1) := by decide +kernel
theorem d_K_followEdges_0 : decode b_K_followEdges 0 = .ok (.aload_n 0, 1) := by decide +kernel
theorem d_K_followEdges_1 : decode b_K_followEdges 1 = .ok (.getfield 33, 3) := by decide +kernel
theorem d_K_followEdges_4 : decode b_K_followEdges 4 = .ok (.aload_n 0, 1) := by decide +kernel
theorem d_K_followEdges_5 : decode b_K_followEdges 5 = .ok (.getfield 30, 3) := by decide +kernel
theorem d_K_followEdges_8 : decode b_K_followEdges 8 = .ok (.invokevirtual 122, 3) := by decide +kernel
theorem d_K_followEdges_11 : decode b_K_followEdges 11 = .ok (.aload_n 0, 1) := by decide +kernel
theorem d_K_followEdges_12 : decode b_K_followEdges 12 = .ok (.getfield 30, 3) := by decide +kernel
theorem d_K_followEdges_15 : decode b_K_followEdges 15 = .ok (.aload_n 0, 1) := by decide +kernel
theorem d_K_followEdges_16 : decode b_K_followEdges 16 = .ok (.getfield 26, 3) := by decide +kernel
theorem d_K_followEdges_19 : decode b_K_followEdges 19 = .ok (.invokevirtual 122, 3) := by decide +kernel
theorem d_K_followEdges_22 : decode b_K_followEdges 22 = .ok (.aload_n 0, 1) := by decide +kernel
theorem d_K_followEdges_23 : decode b_K_followEdges 23 = .ok (.getfield 30, 3) := by decide +kernel
theorem d_K_followEdges_26 : decode b_K_followEdges 26 = .ok (.invokevirtual 126, 3) := by decide +kernel
theorem d_K_followEdges_29 : decode b_K_followEdges 29 = .ok (.aload_n 0, 1) := by decide +kernel
theorem d_K_followEdges_30 : decode b_K_followEdges 30 = .ok (.getfield 36, 3) := by decide +kernel
theorem d_K_followEdges_33 : decode b_K_followEdges 33 = .ok (.aload_n 0, 1) := by decide +kernel
theorem d_K_followEdges_34 : decode b_K_followEdges 34 = .ok (.getfield 30, 3) := by decide +kernel
theorem d_K_followEdges_37 : decode b_K_followEdges 37 = .ok (.aload_n 0, 1) := by decide +kernel
theorem d_K_followEdges_38 : decode b_K_followEdges 38 = .ok (.getfield 33, 3) := by decide +kernel
theorem d_K_followEdges_41 : decode b_K_followEdges 41 = .ok (.invokevirtual 129, 3) := by decide +kernel
theorem d_K_followEdges_44 : decode b_K_followEdges 44 = .ok (.aload_n 0, 1) := by decide +kernel
theorem d_K_followEdges_45 : decode b_K_followEdges 45 = .ok (.getfield 39, 3) := by decide +kernel
theorem d_K_followEdges_48 : decode b_K_followEdges 48 = .ok (.aload_n 0, 1) := by decide +kernel
theorem d_K_followEdges_49 : decode b_K_followEdges 49 = .ok (.getfield 33, 3) := by decide +kernel
theorem d_K_followEdges_52 : decode b_K_followEdges 52 = .ok (.aload_n 0, 1) := by decide +kernel
theorem d_K_followEdges_53 : decode b_K_followEdges 53 = .ok (.getfield 30, 3) := by decide +kernel
theorem d_K_followEdges_56 : decode b_K_followEdges 56 = .ok (.invokevirtual 129, 3) := by decide +kernel
theorem d_K_followEdges_59 : decode b_K_followEdges 59 = .ok (.return_, 1) := by decide +kernel
theorem d_K_sumOfCounts_0 : decode b_K_sumOfCounts 0 = .ok (.iconst 0, 1) := by decide +kernel
theorem d_K_sumOfCounts_1 : decode b_K_sumOfCounts 1 = .ok (.istore_n 1, 1) := by decide +kernel
theorem d_K_sumOfCounts_2 : decode b_K_sumOfCounts 2 = .ok (.iconst 0, 1) := by decide +kernel
theorem d_K_sumOfCounts_3 : decode b_K_sumOfCounts 3 = .ok (.istore_n 2, 1) := by decide +kernel
theorem d_K_sumOfCounts_4 : decode b_K_sumOfCounts 4 = .ok (.iload_n 2, 1) := by decide +kernel
theorem d_K_sumOfCounts_5 : decode b_K_sumOfCounts 5 = .ok (.aload_n 0, 1) := by decide +kernel
theorem d_K_sumOfCounts_6 : decode b_K_sumOfCounts 6 = .ok (.getfield 9, 3) := by decide +kernel
theorem d_K_sumOfCounts_9 : decode b_K_sumOfCounts 9 = .ok (.arraylength, 1) := by decide +kernel
theorem d_K_sumOfCounts_10 : decode b_K_sumOfCounts 10 = .ok (.if_icmp .ge 18, 3) := by decide +kernel
theorem d_K_sumOfCounts_13 : decode b_K_sumOfCounts 13 = .ok (.iload_n 1, 1) := by decide +kernel
theorem d_K_sumOfCounts_14 : decode b_K_sumOfCounts 14 = .ok (.aload_n 0, 1) := by decide +kernel
theorem d_K_sumOfCounts_15 : decode b_K_sumOfCounts 15 = .ok (.getfield 9, 3) := by decide +kernel
theorem d_K_sumOfCounts_18 : decode b_K_sumOfCounts 18 = .ok (.iload_n 2, 1) := by decide +kernel
theorem d_K_sumOfCounts_19 : decode b_K_sumOfCounts 19 = .ok (.iaload, 1) := by decide +kernel
theorem d_K_sumOfCounts_20 : decode b_K_sumOfCounts 20 = .ok (.iadd, 1) := by decide +kernel
theorem d_K_sumOfCounts_21 : decode b_K_sumOfCounts 21 = .ok (.istore_n 1, 1) := by decide +kernel
theorem d_K_sumOfCounts_22 : decode b_K_sumOfCounts 22 = .ok (.iinc 2 1, 3) := by decide +kernel
theorem d_K_sumOfCounts_25 : decode b_K_sumOfCounts 25 = .ok (.goto (-21), 3) := by decide +kernel
theorem d_K_sumOfCounts_28 : decode b_K_sumOfCounts 28 = .ok (.iload_n 1, 1) := by decide +kernel
theorem d_K_sumOfCounts_29 : decode b_K_sumOfCounts 29 = .ok (.ireturn, 1) := by decide +kernel
end
section
set_option maxHeartbeats 4000000 in
set_option maxRecDepth 100000 in
theorem c_K_numberOf (l : Launch) (dC : Nat → ClassId) (dI : Nat → Nat → Nat) (cI cZ cJ : ClassId) (sz : Nat) (a b : Nat) : Met l y_K_numberOf (.code y_K_numberOf b_K_numberOf 2 (some .int) :: WT) { frames := 0, cells := 0, slots := 0, locals := 0 } (va_Pc [.int (nI a), .int (nI b)] (rk_pre (dC, dI) [(cI, .int), (cZ, .boolean), (cJ, .long)] sz [])) (va_Qi (fun (r : Int32) (u : Unit) => r = nI (32 * a + b)) (fun _ s9 => rk_at (dC, dI) [(cI, .int), (cZ, .boolean), (cJ, .long)] (va_A [] sz) [] s9) (va_A [] sz)) 0 0 (va_A [] sz) := by
  refine rk_body (by decide) (Nat.le_of_ble_eq_true rfl) ?_
  intro p e s m below meth c hx hb hml hr htw hown hlocks hin hsz hP hK hD hA hS ls hl
  have hown : s.vm.findClass R_K = some m.cls := hown
  have hl : lv_has ls 2 [(0, .int (nI a)), (1, .int (nI b))] := hl
  refine lv_bipush (v := nI 32) hx hb d_K_numberOf_0 (by decide) ?_
  refine lv_iload_n hx hb d_K_numberOf_2 rfl (lv_at hl 0 rfl) ?_
  refine lv_imul hx hb d_K_numberOf_3 ?_
  refine rk_top (y := nI (32 * a)) (pk_mul 32 a) ?_
  refine lv_iload_n hx hb d_K_numberOf_4 rfl (lv_at hl 1 rfl) ?_
  refine lv_iadd hx hb d_K_numberOf_5 ?_
  refine rk_top (y := nI (32 * a + b)) (nI_add (32 * a) b) ?_
  exact rk_iret (()) hx hb hr hlocks (rfl) rfl hP hK hD hS d_K_numberOf_6
set_option maxHeartbeats 4000000 in
set_option maxRecDepth 100000 in
theorem c_K_isVertex (l : Launch) (dC : Nat → ClassId) (dI : Nat → Nat → Nat) (cI cZ cJ : ClassId) (sz : Nat) (x : Int32) : Met l y_K_isVertex (.code y_K_isVertex b_K_isVertex 1 (some .boolean) :: WT) { frames := 0, cells := 0, slots := 0, locals := 0 } (va_Pc [.int x] (rk_pre (dC, dI) [(cI, .int), (cZ, .boolean), (cJ, .long)] sz [])) (va_Qi (fun (r : Int32) (u : Unit) => r = zI (rk_v x)) (fun _ s9 => rk_at (dC, dI) [(cI, .int), (cZ, .boolean), (cJ, .long)] (va_A [] sz) [] s9) (va_A [] sz)) 0 0 (va_A [] sz) := by
  refine rk_body (by decide) (Nat.le_of_ble_eq_true rfl) ?_
  intro p e s m below meth c hx hb hml hr htw hown hlocks hin hsz hP hK hD hA hS ls hl
  have hown : s.vm.findClass R_K = some m.cls := hown
  have hl : lv_has ls 1 [(0, .int x)] := hl
  refine lv_iload_n hx hb d_K_isVertex_0 rfl (lv_at hl 0 rfl) ?_
  refine lv_if_lt (tgt := 14) hx hb d_K_isVertex_1 (by decide) (fun hc => ?_) (fun hc => ?_)
  · refine lv_iconst (v := nI 0) hx hb d_K_isVertex_14 (by decide) ?_
    refine rk_top (y := zI (rk_v x)) (by rw [rk_v_neg hc]; rfl) ?_
    exact rk_zret (()) hx hb hr hlocks (rfl) rfl hP hK hD hS d_K_isVertex_15
  · refine lv_iload_n hx hb d_K_isVertex_4 rfl (lv_at hl 0 rfl) ?_
    refine lv_bipush (v := nI 32) hx hb d_K_isVertex_5 (by decide) ?_
    refine lv_icmp_ge (tgt := 14) hx hb d_K_isVertex_7 (by decide) (fun hc2 => ?_) (fun hc2 => ?_)
    · refine lv_iconst (v := nI 0) hx hb d_K_isVertex_14 (by decide) ?_
      refine rk_top (y := zI (rk_v x)) (by rw [rk_v_big hc2]; rfl) ?_
      exact rk_zret (()) hx hb hr hlocks (rfl) rfl hP hK hD hS d_K_isVertex_15
    · refine lv_iconst (v := nI 1) hx hb d_K_isVertex_10 (by decide) ?_
      refine lv_goto (tgt := 15) hx hb d_K_isVertex_11 (by decide) ?_
      refine rk_top (y := zI (rk_v x)) (by rw [rk_v_ok hc hc2]; rfl) ?_
      exact rk_zret (()) hx hb hr hlocks (rfl) rfl hP hK hD hS d_K_isVertex_15
set_option maxHeartbeats 4000000 in
set_option maxRecDepth 100000 in
theorem c_K_gatheredConflicts (l : Launch) (dC : Nat → ClassId) (dI : Nat → Nat → Nat) (cI cZ cJ : ClassId) (sz : Nat) (h0 qt qe qs o1 o2 o3 o4 o5 : Nat) (g : Nat) (hg : g ≤ 60) (pp : Nat → Nat) (ge : Nat → Int32) (hge : ∀ i, i < g → ge i = nI (pp i) ∧ pp i < 1024) (t gs : Nat → Int32) : Met l y_K_gatheredConflicts (.code y_K_gatheredConflicts b_K_gatheredConflicts 3 (some .boolean) :: WT) { frames := 0, cells := 0, slots := 0, locals := 0 } (va_Pc [.ref h0] (rk_pre (dC, dI) [(cI, .int), (cZ, .boolean), (cJ, .long)] sz [(h0, .inr (1, [.ref qt, .ref qe, .ref qs, .int (nI g), .ref o1, .ref o2, .ref o3, .ref o4, .ref o5])), (qt, .inl (cI, 1024, .inl t)), (qe, .inl (cI, 60, .inl ge)), (qs, .inl (cI, 1024, .inl gs))])) (va_Qi (fun (r : Int32) (u : Unit) => r = zI (rk_any (fun i => decide (t (pp i) + gs (pp i) < 0)) g)) (fun _ s9 => rk_at (dC, dI) [(cI, .int), (cZ, .boolean), (cJ, .long)] (va_A [(h0, .inr (1, [.ref qt, .ref qe, .ref qs, .int (nI g), .ref o1, .ref o2, .ref o3, .ref o4, .ref o5])), (qt, .inl (cI, 1024, .inl t)), (qe, .inl (cI, 60, .inl ge)), (qs, .inl (cI, 1024, .inl gs))] sz) [(h0, .inr (1, [.ref qt, .ref qe, .ref qs, .int (nI g), .ref o1, .ref o2, .ref o3, .ref o4, .ref o5])), (qt, .inl (cI, 1024, .inl t)), (qe, .inl (cI, 60, .inl ge)), (qs, .inl (cI, 1024, .inl gs))] s9) (va_A [(h0, .inr (1, [.ref qt, .ref qe, .ref qs, .int (nI g), .ref o1, .ref o2, .ref o3, .ref o4, .ref o5])), (qt, .inl (cI, 1024, .inl t)), (qe, .inl (cI, 60, .inl ge)), (qs, .inl (cI, 1024, .inl gs))] sz)) 0 0 (va_A [(h0, .inr (1, [.ref qt, .ref qe, .ref qs, .int (nI g), .ref o1, .ref o2, .ref o3, .ref o4, .ref o5])), (qt, .inl (cI, 1024, .inl t)), (qe, .inl (cI, 60, .inl ge)), (qs, .inl (cI, 1024, .inl gs))] sz) := by
  refine rk_body (by decide) (Nat.le_of_ble_eq_true rfl) ?_
  intro p e s m below meth c hx hb hml hr htw hown hlocks hin hsz hP hK hD hA hS ls hl
  have hown : s.vm.findClass R_K = some m.cls := hown
  have hl : lv_has ls 3 [(0, .ref h0)] := hl
  refine lv_iconst (v := nI 0) hx hb d_K_gatheredConflicts_0 (by decide) ?_
  refine lv_istore_n (lv' := [(1, .int (nI 0)), (0, .ref h0)]) hx hb d_K_gatheredConflicts_1 rfl hl (by decide) rfl (fun ls hl => ?_)
  have lp : ∀ (kf : Nat) (i : Nat), g - i < kf → i ≤ g → rk_any (fun i => decide (t (pp i) + gs (pp i) < 0)) i = false → ∀ (ls : Array Slot) (H : Heap) (locs : List Loc), lv_has ls 3 [(1, .int (nI i)), (0, .ref h0)] → va_P (dC, dI) classes [(h0, .inr (1, [.ref qt, .ref qe, .ref qs, .int (nI g), .ref o1, .ref o2, .ref o3, .ref o4, .ref o5])), (qt, .inl (cI, 1024, .inl t)), (qe, .inl (cI, 60, .inl ge)), (qs, .inl (cI, 1024, .inl gs))] H → va_D (va_A [(h0, .inr (1, [.ref qt, .ref qe, .ref qs, .int (nI g), .ref o1, .ref o2, .ref o3, .ref o4, .ref o5])), (qt, .inl (cI, 1024, .inl t)), (qe, .inl (cI, 60, .inl ge)), (qs, .inl (cI, 1024, .inl gs))] sz) [(h0, .inr (1, [.ref qt, .ref qe, .ref qs, .int (nI g), .ref o1, .ref o2, .ref o3, .ref o4, .ref o5])), (qt, .inl (cI, 1024, .inl t)), (qe, .inl (cI, 60, .inl ge)), (qs, .inl (cI, 1024, .inl gs))] → va_S (va_A [(h0, .inr (1, [.ref qt, .ref qe, .ref qs, .int (nI g), .ref o1, .ref o2, .ref o3, .ref o4, .ref o5])), (qt, .inl (cI, 1024, .inl t)), (qe, .inl (cI, 60, .inl ge)), (qs, .inl (cI, 1024, .inl gs))] sz) s.heap H locs → W p l e { frames := 0, cells := 0, slots := 0, locals := 0 } s m ([.ref h0]).toArray below meth c H locs 0 0 (MQ below (va_Qi (fun (r : Int32) (u : Unit) => r = zI (rk_any (fun i => decide (t (pp i) + gs (pp i) < 0)) g)) (fun _ s9 => rk_at (dC, dI) [(cI, .int), (cZ, .boolean), (cJ, .long)] (va_A [(h0, .inr (1, [.ref qt, .ref qe, .ref qs, .int (nI g), .ref o1, .ref o2, .ref o3, .ref o4, .ref o5])), (qt, .inl (cI, 1024, .inl t)), (qe, .inl (cI, 60, .inl ge)), (qs, .inl (cI, 1024, .inl gs))] sz) [(h0, .inr (1, [.ref qt, .ref qe, .ref qs, .int (nI g), .ref o1, .ref o2, .ref o3, .ref o4, .ref o5])), (qt, .inl (cI, 1024, .inl t)), (qe, .inl (cI, 60, .inl ge)), (qs, .inl (cI, 1024, .inl gs))] s9) (va_A [(h0, .inr (1, [.ref qt, .ref qe, .ref qs, .int (nI g), .ref o1, .ref o2, .ref o3, .ref o4, .ref o5])), (qt, .inl (cI, 1024, .inl t)), (qe, .inl (cI, 60, .inl ge)), (qs, .inl (cI, 1024, .inl gs))] sz)) ([.ref h0]).toArray s 0 0 (va_A [(h0, .inr (1, [.ref qt, .ref qe, .ref qs, .int (nI g), .ref o1, .ref o2, .ref o3, .ref o4, .ref o5])), (qt, .inl (cI, 1024, .inl t)), (qe, .inl (cI, 60, .inl ge)), (qs, .inl (cI, 1024, .inl gs))] sz)) (F0 m 2 ls []) := by
    intro kf
    induction kf with
    | zero => intro i hk hi hn; exact absurd hk (by omega)
    | succ kf ih =>
      intro i hk hi hn ls H locs hl hP hD hS
      refine lv_iload_n hx hb d_K_gatheredConflicts_2 rfl (lv_at hl 0 rfl) ?_
      refine lv_aload_n hx hb d_K_gatheredConflicts_3 rfl (lv_at hl 1 rfl) ?_
      refine va_get (D := (dC, dI)) (ci := 1) (v := .int (nI g)) (C := R_K) (T := F_K) (N := 9) hx hb htw u_K hown hK hP 0 rfl rfl 3 (by decide) (htw _ l_K_19) (fun _ h9 => h9) rfl d_K_gatheredConflicts_4 ?_
      refine lv_icmp_ge (tgt := 41) hx hb d_K_gatheredConflicts_7 (by decide) (fun hc => ?_) (fun hc => ?_)
      · have hc := (nI_leI (by omega) (by omega)).mp hc
        refine lv_iconst (v := nI 0) hx hb d_K_gatheredConflicts_41 (by decide) ?_
        refine rk_top (y := zI (rk_any (fun i => decide (t (pp i) + gs (pp i) < 0)) g)) (by rw [← show i = g by omega, hn]; rfl) ?_
        exact rk_zret (()) hx hb hr hlocks (rfl) rfl hP hK hD hS d_K_gatheredConflicts_42
      · have hc := rk_gt (by omega) (by omega) hc
        obtain ⟨hpi, hpi2⟩ := hge i (by omega)
        refine lv_aload_n hx hb d_K_gatheredConflicts_10 rfl (lv_at hl 1 rfl) ?_
        refine va_get (D := (dC, dI)) (ci := 1) (v := .ref qe) (C := R_K) (T := F_K) (N := 9) hx hb htw u_K hown hK hP 0 rfl rfl 1 (by decide) (htw _ l_K_13) (fun _ h9 => h9) rfl d_K_gatheredConflicts_11 ?_
        refine lv_iload_n hx hb d_K_gatheredConflicts_14 rfl (lv_at hl 0 rfl) ?_
        refine va_iald hx hb hK hP 2 0 rfl rfl (vp_in_nI (n := i) (show i < 60 by omega) (by decide)) d_K_gatheredConflicts_15 ?_
        refine rk_top (y := ge i) (congrArg ge (nI_clamp (show i < 2 ^ 31 by omega))) ?_
        refine rk_top (y := nI (pp i)) hpi ?_
        refine lv_istore_n (lv' := [(2, .int (nI (pp i))), (1, .int (nI i)), (0, .ref h0)]) hx hb d_K_gatheredConflicts_16 rfl hl (by decide) rfl (fun ls hl => ?_)
        refine lv_aload_n hx hb d_K_gatheredConflicts_17 rfl (lv_at hl 2 rfl) ?_
        refine va_get (D := (dC, dI)) (ci := 1) (v := .ref qt) (C := R_K) (T := F_K) (N := 9) hx hb htw u_K hown hK hP 0 rfl rfl 0 (by decide) (htw _ l_K_9) (fun _ h9 => h9) rfl d_K_gatheredConflicts_18 ?_
        refine lv_iload_n hx hb d_K_gatheredConflicts_21 rfl (lv_at hl 0 rfl) ?_
        refine va_iald hx hb hK hP 1 0 rfl rfl (vp_in_nI (n := pp i) (show pp i < 1024 by omega) (by decide)) d_K_gatheredConflicts_22 ?_
        refine rk_top (y := t (pp i)) (congrArg t (nI_clamp (show pp i < 2 ^ 31 by omega))) ?_
        refine lv_aload_n hx hb d_K_gatheredConflicts_23 rfl (lv_at hl 2 rfl) ?_
        refine va_get (D := (dC, dI)) (ci := 1) (v := .ref qs) (C := R_K) (T := F_K) (N := 9) hx hb htw u_K hown hK hP 0 rfl rfl 2 (by decide) (htw _ l_K_16) (fun _ h9 => h9) rfl d_K_gatheredConflicts_24 ?_
        refine lv_iload_n hx hb d_K_gatheredConflicts_27 rfl (lv_at hl 0 rfl) ?_
        refine va_iald hx hb hK hP 3 0 rfl rfl (vp_in_nI (n := pp i) (show pp i < 1024 by omega) (by decide)) d_K_gatheredConflicts_28 ?_
        refine rk_top (y := gs (pp i)) (congrArg gs (nI_clamp (show pp i < 2 ^ 31 by omega))) ?_
        refine lv_iadd hx hb d_K_gatheredConflicts_29 ?_
        refine lv_if_ge (tgt := 35) hx hb d_K_gatheredConflicts_30 (by decide) (fun hd => ?_) (fun hd => ?_)
        · have hl := lv_sub (l' := [(1, .int (nI i)), (0, .ref h0)]) hl [1, 2] rfl
          refine lv_iinc (k := 0) (v := nI (i + 1)) (lv' := [(1, .int (nI (i + 1))), (0, .ref h0)]) hx hb d_K_gatheredConflicts_35 hl rfl (nI_1 i) (by decide) rfl (fun ls hl => ?_)
          refine lv_goto (tgt := 2) hx hb d_K_gatheredConflicts_38 (by decide) ?_
          exact ih (i + 1) (by omega) (by omega) (by rw [rk_any_s, hn, decide_eq_false (Int32.not_lt.mpr hd)]; rfl) ls H locs hl hP hD hS
        · refine lv_iconst (v := nI 1) hx hb d_K_gatheredConflicts_33 (by decide) ?_
          refine rk_top (y := zI (rk_any (fun i => decide (t (pp i) + gs (pp i) < 0)) g)) (by rw [rk_any_iff.mpr ⟨i, by omega, decide_eq_true (Int32.not_le.mp hd)⟩]; rfl) ?_
          exact rk_zret (()) hx hb hr hlocks (rfl) rfl hP hK hD hS d_K_gatheredConflicts_34
  exact lp (g + 1) 0 (by omega) (by omega) rfl ls _ _ hl hP hD hS
set_option maxHeartbeats 4000000 in
set_option maxRecDepth 100000 in
theorem c_K_clearGathered (l : Launch) (dC : Nat → ClassId) (dI : Nat → Nat → Nat) (cI cZ cJ : ClassId) (sz : Nat) (h0 qt qe qs o1 o2 o3 o4 o5 : Nat) (g : Nat) (hg : g ≤ 60) (pp : Nat → Nat) (ge : Nat → Int32) (hge : ∀ i, i < g → ge i = nI (pp i) ∧ pp i < 1024) (gs : Nat → Int32) : Met l y_K_clearGathered (.code y_K_clearGathered b_K_clearGathered 2 none :: WT) { frames := 0, cells := 0, slots := 0, locals := 0 } (va_Pc [.ref h0] (rk_pre (dC, dI) [(cI, .int), (cZ, .boolean), (cJ, .long)] sz [(h0, .inr (1, [.ref qt, .ref qe, .ref qs, .int (nI g), .ref o1, .ref o2, .ref o3, .ref o4, .ref o5])), (qe, .inl (cI, 60, .inl ge)), (qs, .inl (cI, 1024, .inl gs))])) (va_Qv (fun (u : Nat → Int32) => ∀ p, p < 1024 → u p = if rk_in pp g p = true then 0 else gs p) (fun u s9 => rk_at (dC, dI) [(cI, .int), (cZ, .boolean), (cJ, .long)] (va_A [(h0, .inr (1, [.ref qt, .ref qe, .ref qs, .int (nI g), .ref o1, .ref o2, .ref o3, .ref o4, .ref o5])), (qe, .inl (cI, 60, .inl ge)), (qs, .inl (cI, 1024, .inl gs))] sz) [(h0, .inr (1, [.ref qt, .ref qe, .ref qs, .int (nI 0), .ref o1, .ref o2, .ref o3, .ref o4, .ref o5])), (qe, .inl (cI, 60, .inl ge)), (qs, .inl (cI, 1024, .inl u))] s9) (va_A [(h0, .inr (1, [.ref qt, .ref qe, .ref qs, .int (nI g), .ref o1, .ref o2, .ref o3, .ref o4, .ref o5])), (qe, .inl (cI, 60, .inl ge)), (qs, .inl (cI, 1024, .inl gs))] sz)) 0 0 (va_A [(h0, .inr (1, [.ref qt, .ref qe, .ref qs, .int (nI g), .ref o1, .ref o2, .ref o3, .ref o4, .ref o5])), (qe, .inl (cI, 60, .inl ge)), (qs, .inl (cI, 1024, .inl gs))] sz) := by
  refine rk_body (by decide) (Nat.le_of_ble_eq_true rfl) ?_
  intro p e s m below meth c hx hb hml hr htw hown hlocks hin hsz hP hK hD hA hS ls hl
  have hown : s.vm.findClass R_K = some m.cls := hown
  have hl : lv_has ls 2 [(0, .ref h0)] := hl
  refine lv_iconst (v := nI 0) hx hb d_K_clearGathered_0 (by decide) ?_
  refine lv_istore_n (lv' := [(1, .int (nI 0)), (0, .ref h0)]) hx hb d_K_clearGathered_1 rfl hl (by decide) rfl (fun ls hl => ?_)
  have lp : ∀ (kf : Nat) (i : Nat), g - i < kf → i ≤ g → ∀ x : Nat → Int32, (∀ p, p < 1024 → x p = if rk_in pp i p = true then 0 else gs p) → ∀ (ls : Array Slot) (H : Heap) (locs : List Loc), lv_has ls 2 [(1, .int (nI i)), (0, .ref h0)] → va_P (dC, dI) classes [(h0, .inr (1, [.ref qt, .ref qe, .ref qs, .int (nI g), .ref o1, .ref o2, .ref o3, .ref o4, .ref o5])), (qe, .inl (cI, 60, .inl ge)), (qs, .inl (cI, 1024, .inl x))] H → va_D (va_A [(h0, .inr (1, [.ref qt, .ref qe, .ref qs, .int (nI g), .ref o1, .ref o2, .ref o3, .ref o4, .ref o5])), (qe, .inl (cI, 60, .inl ge)), (qs, .inl (cI, 1024, .inl gs))] sz) [(h0, .inr (1, [.ref qt, .ref qe, .ref qs, .int (nI g), .ref o1, .ref o2, .ref o3, .ref o4, .ref o5])), (qe, .inl (cI, 60, .inl ge)), (qs, .inl (cI, 1024, .inl x))] → va_S (va_A [(h0, .inr (1, [.ref qt, .ref qe, .ref qs, .int (nI g), .ref o1, .ref o2, .ref o3, .ref o4, .ref o5])), (qe, .inl (cI, 60, .inl ge)), (qs, .inl (cI, 1024, .inl gs))] sz) s.heap H locs → W p l e { frames := 0, cells := 0, slots := 0, locals := 0 } s m ([.ref h0]).toArray below meth c H locs 0 0 (MQ below (va_Qv (fun (u : Nat → Int32) => ∀ p, p < 1024 → u p = if rk_in pp g p = true then 0 else gs p) (fun u s9 => rk_at (dC, dI) [(cI, .int), (cZ, .boolean), (cJ, .long)] (va_A [(h0, .inr (1, [.ref qt, .ref qe, .ref qs, .int (nI g), .ref o1, .ref o2, .ref o3, .ref o4, .ref o5])), (qe, .inl (cI, 60, .inl ge)), (qs, .inl (cI, 1024, .inl gs))] sz) [(h0, .inr (1, [.ref qt, .ref qe, .ref qs, .int (nI 0), .ref o1, .ref o2, .ref o3, .ref o4, .ref o5])), (qe, .inl (cI, 60, .inl ge)), (qs, .inl (cI, 1024, .inl u))] s9) (va_A [(h0, .inr (1, [.ref qt, .ref qe, .ref qs, .int (nI g), .ref o1, .ref o2, .ref o3, .ref o4, .ref o5])), (qe, .inl (cI, 60, .inl ge)), (qs, .inl (cI, 1024, .inl gs))] sz)) ([.ref h0]).toArray s 0 0 (va_A [(h0, .inr (1, [.ref qt, .ref qe, .ref qs, .int (nI g), .ref o1, .ref o2, .ref o3, .ref o4, .ref o5])), (qe, .inl (cI, 60, .inl ge)), (qs, .inl (cI, 1024, .inl gs))] sz)) (F0 m 2 ls []) := by
    intro kf
    induction kf with
    | zero => intro i hk hi x hx0; exact absurd hk (by omega)
    | succ kf ih =>
      intro i hk hi x hx0 ls H locs hl hP hD hS
      refine lv_iload_n hx hb d_K_clearGathered_2 rfl (lv_at hl 0 rfl) ?_
      refine lv_aload_n hx hb d_K_clearGathered_3 rfl (lv_at hl 1 rfl) ?_
      refine va_get (D := (dC, dI)) (ci := 1) (v := .int (nI g)) (C := R_K) (T := F_K) (N := 9) hx hb htw u_K hown hK hP 0 rfl rfl 3 (by decide) (htw _ l_K_19) (fun _ h9 => h9) rfl d_K_clearGathered_4 ?_
      refine lv_icmp_ge (tgt := 28) hx hb d_K_clearGathered_7 (by decide) (fun hc => ?_) (fun hc => ?_)
      · have hc := (nI_leI (by omega) (by omega)).mp hc
        refine lv_aload_n hx hb d_K_clearGathered_28 rfl (lv_at hl 1 rfl) ?_
        refine lv_iconst (v := nI 0) hx hb d_K_clearGathered_29 (by decide) ?_
        refine va_put (D := (dC, dI)) (ci := 1) (v := .int (nI 0)) (ty := .int) (C := R_K) (T := F_K) (N := 9) hx hb htw u_K t_K t_K_ok n_K hown hK hP hD hS 0 rfl rfl 3 (by decide) (htw _ l_K_19) (fun _ h9 => h9) rfl (by decide +kernel) rfl rfl (Nat.le_of_ble_eq_true rfl) d_K_clearGathered_30 (fun H locs hP hD hS => ?_)
        have hP : va_P (dC, dI) classes [(h0, .inr (1, [.ref qt, .ref qe, .ref qs, .int (nI 0), .ref o1, .ref o2, .ref o3, .ref o4, .ref o5])), (qe, .inl (cI, 60, .inl ge)), (qs, .inl (cI, 1024, .inl x))] H := hP
        have hD : va_D _ [(h0, .inr (1, [.ref qt, .ref qe, .ref qs, .int (nI 0), .ref o1, .ref o2, .ref o3, .ref o4, .ref o5])), (qe, .inl (cI, 60, .inl ge)), (qs, .inl (cI, 1024, .inl x))] := hD
        exact rk_vret (x) hx hb hr hlocks (by rw [← show i = g by omega]; exact hx0) rfl hP hK hD hS d_K_clearGathered_33
      · have hc := rk_gt (by omega) (by omega) hc
        obtain ⟨hpi, hpi2⟩ := hge i (by omega)
        refine lv_aload_n hx hb d_K_clearGathered_10 rfl (lv_at hl 1 rfl) ?_
        refine va_get (D := (dC, dI)) (ci := 1) (v := .ref qs) (C := R_K) (T := F_K) (N := 9) hx hb htw u_K hown hK hP 0 rfl rfl 2 (by decide) (htw _ l_K_16) (fun _ h9 => h9) rfl d_K_clearGathered_11 ?_
        refine lv_aload_n hx hb d_K_clearGathered_14 rfl (lv_at hl 1 rfl) ?_
        refine va_get (D := (dC, dI)) (ci := 1) (v := .ref qe) (C := R_K) (T := F_K) (N := 9) hx hb htw u_K hown hK hP 0 rfl rfl 1 (by decide) (htw _ l_K_13) (fun _ h9 => h9) rfl d_K_clearGathered_15 ?_
        refine lv_iload_n hx hb d_K_clearGathered_18 rfl (lv_at hl 0 rfl) ?_
        refine va_iald hx hb hK hP 1 0 rfl rfl (vp_in_nI (n := i) (show i < 60 by omega) (by decide)) d_K_clearGathered_19 ?_
        refine rk_top (y := ge i) (congrArg ge (nI_clamp (show i < 2 ^ 31 by omega))) ?_
        refine rk_top (y := nI (pp i)) hpi ?_
        refine lv_iconst (v := nI 0) hx hb d_K_clearGathered_20 (by decide) ?_
        refine va_iast hx hb hK hP hD hS 2 0 rfl rfl (vp_in_nI (n := pp i) (show pp i < 1024 by omega) (by decide)) d_K_clearGathered_21 (fun H locs hP hD hS => ?_)
        rw [nI_clamp (show pp i < 2 ^ 31 by omega)] at hP hD
        have hP : va_P (dC, dI) classes [(h0, .inr (1, [.ref qt, .ref qe, .ref qs, .int (nI g), .ref o1, .ref o2, .ref o3, .ref o4, .ref o5])), (qe, .inl (cI, 60, .inl ge)), (qs, .inl (cI, 1024, .inl (upd x (pp i) (nI 0))))] H := hP
        have hD : va_D _ [(h0, .inr (1, [.ref qt, .ref qe, .ref qs, .int (nI g), .ref o1, .ref o2, .ref o3, .ref o4, .ref o5])), (qe, .inl (cI, 60, .inl ge)), (qs, .inl (cI, 1024, .inl (upd x (pp i) (nI 0))))] := hD
        refine lv_iinc (k := 0) (v := nI (i + 1)) (lv' := [(1, .int (nI (i + 1))), (0, .ref h0)]) hx hb d_K_clearGathered_22 hl rfl (nI_1 i) (by decide) rfl (fun ls hl => ?_)
        refine lv_goto (tgt := 2) hx hb d_K_clearGathered_25 (by decide) ?_
        exact ih (i + 1) (by omega) (by omega) _ (rk_clr hx0) ls H locs hl hP hD hS
  exact lp (g + 1) 0 (by omega) (by omega) gs (fun p _ => rfl) ls _ _ hl hP hD hS
set_option maxHeartbeats 4000000 in
set_option maxRecDepth 100000 in
theorem c_K_addGatheredToCounts (l : Launch) (dC : Nat → ClassId) (dI : Nat → Nat → Nat) (cI cZ cJ : ClassId) (sz : Nat) (h0 qt qe qs o1 o2 o3 o4 o5 : Nat) (g : Nat) (hg : g ≤ 60) (pp : Nat → Nat) (ge : Nat → Int32) (hge : ∀ i, i < g → ge i = nI (pp i) ∧ pp i < 1024) (q1 : Nat) (t gs r1 : Nat → Int32) (hR : rk_R r1 (fun p => decide (0 < t p))) : Met l y_K_addGatheredToCounts (.code y_K_addGatheredToCounts b_K_addGatheredToCounts 3 none :: WT) { frames := 1, cells := 0, slots := 0, locals := 23 } (va_Pc [.ref h0] (rk_pre (dC, dI) [(cI, .int), (cZ, .boolean), (cJ, .long)] sz [(h0, .inr (1, [.ref qt, .ref qe, .ref qs, .int (nI g), .ref o1, .ref o2, .ref o3, .ref o4, .ref o5])), (qt, .inl (cI, 1024, .inl t)), (qe, .inl (cI, 60, .inl ge)), (qs, .inl (cI, 1024, .inl gs)), (o1, .inr (0, [.ref q1])), (q1, .inl (cI, 32, .inl r1))])) (va_Qv (fun (u : (Nat → Int32) × (Nat → Int32) × (Nat → Int32)) => rk_ag pp t gs g u) (fun u s9 => rk_at (dC, dI) [(cI, .int), (cZ, .boolean), (cJ, .long)] (va_A [(h0, .inr (1, [.ref qt, .ref qe, .ref qs, .int (nI g), .ref o1, .ref o2, .ref o3, .ref o4, .ref o5])), (qt, .inl (cI, 1024, .inl t)), (qe, .inl (cI, 60, .inl ge)), (qs, .inl (cI, 1024, .inl gs)), (o1, .inr (0, [.ref q1])), (q1, .inl (cI, 32, .inl r1))] sz) [(h0, .inr (1, [.ref qt, .ref qe, .ref qs, .int (nI g), .ref o1, .ref o2, .ref o3, .ref o4, .ref o5])), (qt, .inl (cI, 1024, .inl u.1)), (qe, .inl (cI, 60, .inl ge)), (qs, .inl (cI, 1024, .inl u.2.1)), (o1, .inr (0, [.ref q1])), (q1, .inl (cI, 32, .inl u.2.2))] s9) (va_A [(h0, .inr (1, [.ref qt, .ref qe, .ref qs, .int (nI g), .ref o1, .ref o2, .ref o3, .ref o4, .ref o5])), (qt, .inl (cI, 1024, .inl t)), (qe, .inl (cI, 60, .inl ge)), (qs, .inl (cI, 1024, .inl gs)), (o1, .inr (0, [.ref q1])), (q1, .inl (cI, 32, .inl r1))] sz)) 0 0 (va_A [(h0, .inr (1, [.ref qt, .ref qe, .ref qs, .int (nI g), .ref o1, .ref o2, .ref o3, .ref o4, .ref o5])), (qt, .inl (cI, 1024, .inl t)), (qe, .inl (cI, 60, .inl ge)), (qs, .inl (cI, 1024, .inl gs)), (o1, .inr (0, [.ref q1])), (q1, .inl (cI, 32, .inl r1))] sz) := by
  refine rk_body (by decide) (Nat.le_of_ble_eq_true rfl) ?_
  intro p e s m below meth c hx hb hml hr htw hown hlocks hin hsz hP hK hD hA hS ls hl
  have hown : s.vm.findClass R_K = some m.cls := hown
  have hl : lv_has ls 3 [(0, .ref h0)] := hl
  refine lv_iconst (v := nI 0) hx hb d_K_addGatheredToCounts_0 (by decide) ?_
  refine lv_istore_n (lv' := [(1, .int (nI 0)), (0, .ref h0)]) hx hb d_K_addGatheredToCounts_1 rfl hl (by decide) rfl (fun ls hl => ?_)
  have lp : ∀ (kf : Nat) (i : Nat), g - i < kf → i ≤ g → ∀ x y z : Nat → Int32, rk_ag pp t gs i (x, y, z) → ∀ (ls : Array Slot) (H : Heap) (locs : List Loc), lv_has ls 3 [(1, .int (nI i)), (0, .ref h0)] → va_P (dC, dI) classes [(h0, .inr (1, [.ref qt, .ref qe, .ref qs, .int (nI g), .ref o1, .ref o2, .ref o3, .ref o4, .ref o5])), (qt, .inl (cI, 1024, .inl x)), (qe, .inl (cI, 60, .inl ge)), (qs, .inl (cI, 1024, .inl y)), (o1, .inr (0, [.ref q1])), (q1, .inl (cI, 32, .inl z))] H → va_D (va_A [(h0, .inr (1, [.ref qt, .ref qe, .ref qs, .int (nI g), .ref o1, .ref o2, .ref o3, .ref o4, .ref o5])), (qt, .inl (cI, 1024, .inl t)), (qe, .inl (cI, 60, .inl ge)), (qs, .inl (cI, 1024, .inl gs)), (o1, .inr (0, [.ref q1])), (q1, .inl (cI, 32, .inl r1))] sz) [(h0, .inr (1, [.ref qt, .ref qe, .ref qs, .int (nI g), .ref o1, .ref o2, .ref o3, .ref o4, .ref o5])), (qt, .inl (cI, 1024, .inl x)), (qe, .inl (cI, 60, .inl ge)), (qs, .inl (cI, 1024, .inl y)), (o1, .inr (0, [.ref q1])), (q1, .inl (cI, 32, .inl z))] → va_S (va_A [(h0, .inr (1, [.ref qt, .ref qe, .ref qs, .int (nI g), .ref o1, .ref o2, .ref o3, .ref o4, .ref o5])), (qt, .inl (cI, 1024, .inl t)), (qe, .inl (cI, 60, .inl ge)), (qs, .inl (cI, 1024, .inl gs)), (o1, .inr (0, [.ref q1])), (q1, .inl (cI, 32, .inl r1))] sz) s.heap H locs → W p l e { frames := 1, cells := 0, slots := 0, locals := 23 } s m ([.ref h0]).toArray below meth c H locs 0 0 (MQ below (va_Qv (fun (u : (Nat → Int32) × (Nat → Int32) × (Nat → Int32)) => rk_ag pp t gs g u) (fun u s9 => rk_at (dC, dI) [(cI, .int), (cZ, .boolean), (cJ, .long)] (va_A [(h0, .inr (1, [.ref qt, .ref qe, .ref qs, .int (nI g), .ref o1, .ref o2, .ref o3, .ref o4, .ref o5])), (qt, .inl (cI, 1024, .inl t)), (qe, .inl (cI, 60, .inl ge)), (qs, .inl (cI, 1024, .inl gs)), (o1, .inr (0, [.ref q1])), (q1, .inl (cI, 32, .inl r1))] sz) [(h0, .inr (1, [.ref qt, .ref qe, .ref qs, .int (nI g), .ref o1, .ref o2, .ref o3, .ref o4, .ref o5])), (qt, .inl (cI, 1024, .inl u.1)), (qe, .inl (cI, 60, .inl ge)), (qs, .inl (cI, 1024, .inl u.2.1)), (o1, .inr (0, [.ref q1])), (q1, .inl (cI, 32, .inl u.2.2))] s9) (va_A [(h0, .inr (1, [.ref qt, .ref qe, .ref qs, .int (nI g), .ref o1, .ref o2, .ref o3, .ref o4, .ref o5])), (qt, .inl (cI, 1024, .inl t)), (qe, .inl (cI, 60, .inl ge)), (qs, .inl (cI, 1024, .inl gs)), (o1, .inr (0, [.ref q1])), (q1, .inl (cI, 32, .inl r1))] sz)) ([.ref h0]).toArray s 0 0 (va_A [(h0, .inr (1, [.ref qt, .ref qe, .ref qs, .int (nI g), .ref o1, .ref o2, .ref o3, .ref o4, .ref o5])), (qt, .inl (cI, 1024, .inl t)), (qe, .inl (cI, 60, .inl ge)), (qs, .inl (cI, 1024, .inl gs)), (o1, .inr (0, [.ref q1])), (q1, .inl (cI, 32, .inl r1))] sz)) (F0 m 2 ls []) := by
    intro kf
    induction kf with
    | zero => intro i hk hi x y z hag; exact absurd hk (by omega)
    | succ kf ih =>
      intro i hk hi x y z hag ls H locs hl hP hD hS
      refine lv_iload_n hx hb d_K_addGatheredToCounts_2 rfl (lv_at hl 0 rfl) ?_
      refine lv_aload_n hx hb d_K_addGatheredToCounts_3 rfl (lv_at hl 1 rfl) ?_
      refine va_get (D := (dC, dI)) (ci := 1) (v := .int (nI g)) (C := R_K) (T := F_K) (N := 9) hx hb htw u_K hown hK hP 0 rfl rfl 3 (by decide) (htw _ l_K_19) (fun _ h9 => h9) rfl d_K_addGatheredToCounts_4 ?_
      refine lv_icmp_ge (tgt := 74) hx hb d_K_addGatheredToCounts_7 (by decide) (fun hc => ?_) (fun hc => ?_)
      · have hc := (nI_leI (by omega) (by omega)).mp hc
        exact rk_vret ((x, y, z)) hx hb hr hlocks (by rw [← show i = g by omega]; exact hag) rfl hP hK hD hS d_K_addGatheredToCounts_74
      · have hc := rk_gt (by omega) (by omega) hc
        obtain ⟨hpi, hpi2⟩ := hge i (by omega)
        refine lv_aload_n hx hb d_K_addGatheredToCounts_10 rfl (lv_at hl 1 rfl) ?_
        refine va_get (D := (dC, dI)) (ci := 1) (v := .ref qe) (C := R_K) (T := F_K) (N := 9) hx hb htw u_K hown hK hP 0 rfl rfl 1 (by decide) (htw _ l_K_13) (fun _ h9 => h9) rfl d_K_addGatheredToCounts_11 ?_
        refine lv_iload_n hx hb d_K_addGatheredToCounts_14 rfl (lv_at hl 0 rfl) ?_
        refine va_iald hx hb hK hP 2 0 rfl rfl (vp_in_nI (n := i) (show i < 60 by omega) (by decide)) d_K_addGatheredToCounts_15 ?_
        refine rk_top (y := ge i) (congrArg ge (nI_clamp (show i < 2 ^ 31 by omega))) ?_
        refine rk_top (y := nI (pp i)) hpi ?_
        refine lv_istore_n (lv' := [(2, .int (nI (pp i))), (1, .int (nI i)), (0, .ref h0)]) hx hb d_K_addGatheredToCounts_16 rfl hl (by decide) rfl (fun ls hl => ?_)
        refine lv_aload_n hx hb d_K_addGatheredToCounts_17 rfl (lv_at hl 2 rfl) ?_
        refine va_get (D := (dC, dI)) (ci := 1) (v := .ref qt) (C := R_K) (T := F_K) (N := 9) hx hb htw u_K hown hK hP 0 rfl rfl 0 (by decide) (htw _ l_K_9) (fun _ h9 => h9) rfl d_K_addGatheredToCounts_18 ?_
        refine lv_iload_n hx hb d_K_addGatheredToCounts_21 rfl (lv_at hl 0 rfl) ?_
        refine lv_dup2_11 hx hb d_K_addGatheredToCounts_22 rfl rfl ?_
        refine va_iald hx hb hK hP 1 0 rfl rfl (vp_in_nI (n := pp i) (show pp i < 1024 by omega) (by decide)) d_K_addGatheredToCounts_23 ?_
        refine rk_top (y := x (pp i)) (congrArg x (nI_clamp (show pp i < 2 ^ 31 by omega))) ?_
        refine lv_aload_n hx hb d_K_addGatheredToCounts_24 rfl (lv_at hl 2 rfl) ?_
        refine va_get (D := (dC, dI)) (ci := 1) (v := .ref qs) (C := R_K) (T := F_K) (N := 9) hx hb htw u_K hown hK hP 0 rfl rfl 2 (by decide) (htw _ l_K_16) (fun _ h9 => h9) rfl d_K_addGatheredToCounts_25 ?_
        refine lv_iload_n hx hb d_K_addGatheredToCounts_28 rfl (lv_at hl 0 rfl) ?_
        refine va_iald hx hb hK hP 3 0 rfl rfl (vp_in_nI (n := pp i) (show pp i < 1024 by omega) (by decide)) d_K_addGatheredToCounts_29 ?_
        refine rk_top (y := y (pp i)) (congrArg y (nI_clamp (show pp i < 2 ^ 31 by omega))) ?_
        refine lv_iadd hx hb d_K_addGatheredToCounts_30 ?_
        refine va_iast hx hb hK hP hD hS 1 0 rfl rfl (vp_in_nI (n := pp i) (show pp i < 1024 by omega) (by decide)) d_K_addGatheredToCounts_31 (fun H locs hP hD hS => ?_)
        rw [nI_clamp (show pp i < 2 ^ 31 by omega)] at hP hD
        have hP : va_P (dC, dI) classes [(h0, .inr (1, [.ref qt, .ref qe, .ref qs, .int (nI g), .ref o1, .ref o2, .ref o3, .ref o4, .ref o5])), (qt, .inl (cI, 1024, .inl (upd x (pp i) ((x (pp i)) + (y (pp i)))))), (qe, .inl (cI, 60, .inl ge)), (qs, .inl (cI, 1024, .inl y)), (o1, .inr (0, [.ref q1])), (q1, .inl (cI, 32, .inl z))] H := hP
        have hD : va_D _ [(h0, .inr (1, [.ref qt, .ref qe, .ref qs, .int (nI g), .ref o1, .ref o2, .ref o3, .ref o4, .ref o5])), (qt, .inl (cI, 1024, .inl (upd x (pp i) ((x (pp i)) + (y (pp i)))))), (qe, .inl (cI, 60, .inl ge)), (qs, .inl (cI, 1024, .inl y)), (o1, .inr (0, [.ref q1])), (q1, .inl (cI, 32, .inl z))] := hD
        refine lv_aload_n hx hb d_K_addGatheredToCounts_32 rfl (lv_at hl 2 rfl) ?_
        refine va_get (D := (dC, dI)) (ci := 1) (v := .ref qs) (C := R_K) (T := F_K) (N := 9) hx hb htw u_K hown hK hP 0 rfl rfl 2 (by decide) (htw _ l_K_16) (fun _ h9 => h9) rfl d_K_addGatheredToCounts_33 ?_
        refine lv_iload_n hx hb d_K_addGatheredToCounts_36 rfl (lv_at hl 0 rfl) ?_
        refine lv_iconst (v := nI 0) hx hb d_K_addGatheredToCounts_37 (by decide) ?_
        refine va_iast hx hb hK hP hD hS 3 0 rfl rfl (vp_in_nI (n := pp i) (show pp i < 1024 by omega) (by decide)) d_K_addGatheredToCounts_38 (fun H locs hP hD hS => ?_)
        rw [nI_clamp (show pp i < 2 ^ 31 by omega)] at hP hD
        have hP : va_P (dC, dI) classes [(h0, .inr (1, [.ref qt, .ref qe, .ref qs, .int (nI g), .ref o1, .ref o2, .ref o3, .ref o4, .ref o5])), (qt, .inl (cI, 1024, .inl (upd x (pp i) ((x (pp i)) + (y (pp i)))))), (qe, .inl (cI, 60, .inl ge)), (qs, .inl (cI, 1024, .inl (upd y (pp i) (nI 0)))), (o1, .inr (0, [.ref q1])), (q1, .inl (cI, 32, .inl z))] H := hP
        have hD : va_D _ [(h0, .inr (1, [.ref qt, .ref qe, .ref qs, .int (nI g), .ref o1, .ref o2, .ref o3, .ref o4, .ref o5])), (qt, .inl (cI, 1024, .inl (upd x (pp i) ((x (pp i)) + (y (pp i)))))), (qe, .inl (cI, 60, .inl ge)), (qs, .inl (cI, 1024, .inl (upd y (pp i) (nI 0)))), (o1, .inr (0, [.ref q1])), (q1, .inl (cI, 32, .inl z))] := hD
        refine lv_aload_n hx hb d_K_addGatheredToCounts_39 rfl (lv_at hl 2 rfl) ?_
        refine va_get (D := (dC, dI)) (ci := 1) (v := .ref o1) (C := R_K) (T := F_K) (N := 9) hx hb htw u_K hown hK hP 0 rfl rfl 4 (by decide) (htw _ l_K_26) (fun _ h9 => h9) rfl d_K_addGatheredToCounts_40 ?_
        refine lv_iload_n hx hb d_K_addGatheredToCounts_43 rfl (lv_at hl 0 rfl) ?_
        refine lv_bipush (v := nI 32) hx hb d_K_addGatheredToCounts_44 (by decide) ?_
        refine lv_idiv hx hb d_K_addGatheredToCounts_46 (by decide) ?_
        refine rk_top (y := nI ((pp i) / 32)) (pk_div (show pp i < 2 ^ 31 by omega) (by decide) (by decide)) ?_
        refine lv_iload_n hx hb d_K_addGatheredToCounts_47 rfl (lv_at hl 0 rfl) ?_
        refine lv_bipush (v := nI 32) hx hb d_K_addGatheredToCounts_48 (by decide) ?_
        refine lv_irem hx hb d_K_addGatheredToCounts_50 (by decide) ?_
        refine rk_top (y := nI ((pp i) % 32)) (pk_rem (show pp i < 2 ^ 31 by omega) (by decide) (by decide)) ?_
        refine lv_aload_n hx hb d_K_addGatheredToCounts_51 rfl (lv_at hl 2 rfl) ?_
        refine va_get (D := (dC, dI)) (ci := 1) (v := .ref qt) (C := R_K) (T := F_K) (N := 9) hx hb htw u_K hown hK hP 0 rfl rfl 0 (by decide) (htw _ l_K_9) (fun _ h9 => h9) rfl d_K_addGatheredToCounts_52 ?_
        refine lv_iload_n hx hb d_K_addGatheredToCounts_55 rfl (lv_at hl 0 rfl) ?_
        refine va_iald hx hb hK hP 1 0 rfl rfl (vp_in_nI (n := pp i) (show pp i < 1024 by omega) (by decide)) d_K_addGatheredToCounts_56 ?_
        refine rk_top (y := (upd x (pp i) ((x (pp i)) + (y (pp i)))) (pp i)) (congrArg (upd x (pp i) ((x (pp i)) + (y (pp i)))) (nI_clamp (show pp i < 2 ^ 31 by omega))) ?_
        refine lv_if_le (tgt := 64) hx hb d_K_addGatheredToCounts_57 (by decide) (fun hd => ?_) (fun hd => ?_)
        · refine lv_iconst (v := nI 0) hx hb d_K_addGatheredToCounts_64 (by decide) ?_
          refine rk_top (y := zI (decide (0 < (upd x (pp i) (x (pp i) + y (pp i))) (pp i)))) (by rw [decide_eq_false (Int32.not_lt.mpr hd)]; rfl) ?_
          refine rk_backv (wc := [(o1, .inr (0, [.ref q1])), (q1, .inl (cI, 32, .inl z))]) (wr := [(h0, .inr (1, [.ref qt, .ref qe, .ref qs, .int (nI g), .ref o1, .ref o2, .ref o3, .ref o4, .ref o5])), (qt, .inl (cI, 1024, .inl (upd x (pp i) ((x (pp i)) + (y (pp i)))))), (qe, .inl (cI, 60, .inl ge)), (qs, .inl (cI, 1024, .inl (upd y (pp i) (nI 0))))]) (va_runV (As := [.int (nI ((pp i) / 32)), .int (nI ((pp i) % 32)), .int (zI (decide (0 < (upd x (pp i) (x (pp i) + y (pp i))) (pp i))))]) (rest := []) ⟨hx, hb, hml, hown, htw⟩ (c_P_put l dC dI cI cZ cJ _ o1 q1 z _ hag.2.2 (pp i / 32) (pp i % 32) (by omega) (by omega) (decide (0 < (upd x (pp i) (x (pp i) + y (pp i))) (pp i)))) (rk_cwV 3 htw gc_K_addGatheredToCounts_65 (by decide +kernel) ⟨(Nat.le_of_ble_eq_true rfl), (Nat.le_of_ble_eq_true rfl)⟩) (⟨rk_blind, va_recv hK hP (ci := 0) rfl (q0 := 4) rfl, rk_give (rk_psub (isC := [4, 5]) hP rfl) hK (hD.sub [4, 5] rfl rfl)⟩) rfl rfl hl.1 rfl (lv_room (Nat.le_of_ble_eq_true rfl)) d_K_addGatheredToCounts_65 ⟨(Nat.le_of_ble_eq_true rfl), (Nat.le_of_ble_eq_true rfl)⟩) hP hD hS hA [4, 5] [0, 1, 2, 3] rfl rfl rfl (by decide) (fun z9 H locs hz9 hP hD hS => ?_)
          have hP : va_P (dC, dI) classes [(h0, .inr (1, [.ref qt, .ref qe, .ref qs, .int (nI g), .ref o1, .ref o2, .ref o3, .ref o4, .ref o5])), (qt, .inl (cI, 1024, .inl (upd x (pp i) ((x (pp i)) + (y (pp i)))))), (qe, .inl (cI, 60, .inl ge)), (qs, .inl (cI, 1024, .inl (upd y (pp i) (nI 0)))), (o1, .inr (0, [.ref q1])), (q1, .inl (cI, 32, .inl z9))] H := hP
          have hD : va_D _ [(h0, .inr (1, [.ref qt, .ref qe, .ref qs, .int (nI g), .ref o1, .ref o2, .ref o3, .ref o4, .ref o5])), (qt, .inl (cI, 1024, .inl (upd x (pp i) ((x (pp i)) + (y (pp i)))))), (qe, .inl (cI, 60, .inl ge)), (qs, .inl (cI, 1024, .inl (upd y (pp i) (nI 0)))), (o1, .inr (0, [.ref q1])), (q1, .inl (cI, 32, .inl z9))] := hD
          have hl := lv_sub (l' := [(1, .int (nI i)), (0, .ref h0)]) hl [1, 2] rfl
          refine lv_iinc (k := 0) (v := nI (i + 1)) (lv' := [(1, .int (nI (i + 1))), (0, .ref h0)]) hx hb d_K_addGatheredToCounts_68 hl rfl (nI_1 i) (by decide) rfl (fun ls hl => ?_)
          refine lv_goto (tgt := 2) hx hb d_K_addGatheredToCounts_71 (by decide) ?_
          exact ih (i + 1) (by omega) (by omega) _ _ _ (rk_ag_s hag hpi2 hz9) ls H locs hl hP hD hS
        · refine lv_iconst (v := nI 1) hx hb d_K_addGatheredToCounts_60 (by decide) ?_
          refine lv_goto (tgt := 65) hx hb d_K_addGatheredToCounts_61 (by decide) ?_
          refine rk_top (y := zI (decide (0 < (upd x (pp i) (x (pp i) + y (pp i))) (pp i)))) (by rw [decide_eq_true (Int32.not_le.mp hd)]; rfl) ?_
          refine rk_backv (wc := [(o1, .inr (0, [.ref q1])), (q1, .inl (cI, 32, .inl z))]) (wr := [(h0, .inr (1, [.ref qt, .ref qe, .ref qs, .int (nI g), .ref o1, .ref o2, .ref o3, .ref o4, .ref o5])), (qt, .inl (cI, 1024, .inl (upd x (pp i) ((x (pp i)) + (y (pp i)))))), (qe, .inl (cI, 60, .inl ge)), (qs, .inl (cI, 1024, .inl (upd y (pp i) (nI 0))))]) (va_runV (As := [.int (nI ((pp i) / 32)), .int (nI ((pp i) % 32)), .int (zI (decide (0 < (upd x (pp i) (x (pp i) + y (pp i))) (pp i))))]) (rest := []) ⟨hx, hb, hml, hown, htw⟩ (c_P_put l dC dI cI cZ cJ _ o1 q1 z _ hag.2.2 (pp i / 32) (pp i % 32) (by omega) (by omega) (decide (0 < (upd x (pp i) (x (pp i) + y (pp i))) (pp i)))) (rk_cwV 3 htw gc_K_addGatheredToCounts_65 (by decide +kernel) ⟨(Nat.le_of_ble_eq_true rfl), (Nat.le_of_ble_eq_true rfl)⟩) (⟨rk_blind, va_recv hK hP (ci := 0) rfl (q0 := 4) rfl, rk_give (rk_psub (isC := [4, 5]) hP rfl) hK (hD.sub [4, 5] rfl rfl)⟩) rfl rfl hl.1 rfl (lv_room (Nat.le_of_ble_eq_true rfl)) d_K_addGatheredToCounts_65 ⟨(Nat.le_of_ble_eq_true rfl), (Nat.le_of_ble_eq_true rfl)⟩) hP hD hS hA [4, 5] [0, 1, 2, 3] rfl rfl rfl (by decide) (fun z9 H locs hz9 hP hD hS => ?_)
          have hP : va_P (dC, dI) classes [(h0, .inr (1, [.ref qt, .ref qe, .ref qs, .int (nI g), .ref o1, .ref o2, .ref o3, .ref o4, .ref o5])), (qt, .inl (cI, 1024, .inl (upd x (pp i) ((x (pp i)) + (y (pp i)))))), (qe, .inl (cI, 60, .inl ge)), (qs, .inl (cI, 1024, .inl (upd y (pp i) (nI 0)))), (o1, .inr (0, [.ref q1])), (q1, .inl (cI, 32, .inl z9))] H := hP
          have hD : va_D _ [(h0, .inr (1, [.ref qt, .ref qe, .ref qs, .int (nI g), .ref o1, .ref o2, .ref o3, .ref o4, .ref o5])), (qt, .inl (cI, 1024, .inl (upd x (pp i) ((x (pp i)) + (y (pp i)))))), (qe, .inl (cI, 60, .inl ge)), (qs, .inl (cI, 1024, .inl (upd y (pp i) (nI 0)))), (o1, .inr (0, [.ref q1])), (q1, .inl (cI, 32, .inl z9))] := hD
          have hl := lv_sub (l' := [(1, .int (nI i)), (0, .ref h0)]) hl [1, 2] rfl
          refine lv_iinc (k := 0) (v := nI (i + 1)) (lv' := [(1, .int (nI (i + 1))), (0, .ref h0)]) hx hb d_K_addGatheredToCounts_68 hl rfl (nI_1 i) (by decide) rfl (fun ls hl => ?_)
          refine lv_goto (tgt := 2) hx hb d_K_addGatheredToCounts_71 (by decide) ?_
          exact ih (i + 1) (by omega) (by omega) _ _ _ (rk_ag_s hag hpi2 hz9) ls H locs hl hP hD hS
  exact lp (g + 1) 0 (by omega) (by omega) t gs r1 ⟨fun p _ => rfl, fun p _ => rfl, hR⟩ ls _ _ hl hP hD hS
set_option maxHeartbeats 4000000 in
set_option maxRecDepth 100000 in
theorem c_K_followEdges (l : Launch) (dC : Nat → ClassId) (dI : Nat → Nat → Nat) (cI cZ cJ : ClassId) (sz : Nat) (h0 qt qe qs o1 o2 o3 o4 o5 : Nat) (g : Nat) (q1 q2 q3 q4 q5 : Nat) (r1 r2 r3 r4 r5 : Nat → Int32) (e0 f0 : Nat → Bool) (hR1 : rk_R r1 e0) (hR2 : rk_R r2 f0) : Met l y_K_followEdges (.code y_K_followEdges b_K_followEdges 1 none :: WT) { frames := 3, cells := 0, slots := 0, locals := 65 } (va_Pc [.ref h0] (rk_pre (dC, dI) [(cI, .int), (cZ, .boolean), (cJ, .long)] sz [(h0, .inr (1, [.ref qt, .ref qe, .ref qs, .int (nI g), .ref o1, .ref o2, .ref o3, .ref o4, .ref o5])), (o1, .inr (0, [.ref q1])), (q1, .inl (cI, 32, .inl r1)), (o2, .inr (0, [.ref q2])), (q2, .inl (cI, 32, .inl r2)), (o3, .inr (0, [.ref q3])), (q3, .inl (cI, 32, .inl r3)), (o4, .inr (0, [.ref q4])), (q4, .inl (cI, 32, .inl r4)), (o5, .inr (0, [.ref q5])), (q5, .inl (cI, 32, .inl r5))])) (va_Qv (fun (u : (Nat → Int32) × (Nat → Int32) × (Nat → Int32) × (Nat → Int32)) => rk_R u.1 (rk_jv 32 e0) ∧ rk_R u.2.2.1 (fun p => rk_jv 32 e0 p && !f0 p) ∧ rk_R u.2.2.2 (fun p => f0 p && !rk_jv 32 e0 p)) (fun u s9 => rk_at (dC, dI) [(cI, .int), (cZ, .boolean), (cJ, .long)] (va_A [(h0, .inr (1, [.ref qt, .ref qe, .ref qs, .int (nI g), .ref o1, .ref o2, .ref o3, .ref o4, .ref o5])), (o1, .inr (0, [.ref q1])), (q1, .inl (cI, 32, .inl r1)), (o2, .inr (0, [.ref q2])), (q2, .inl (cI, 32, .inl r2)), (o3, .inr (0, [.ref q3])), (q3, .inl (cI, 32, .inl r3)), (o4, .inr (0, [.ref q4])), (q4, .inl (cI, 32, .inl r4)), (o5, .inr (0, [.ref q5])), (q5, .inl (cI, 32, .inl r5))] sz) [(h0, .inr (1, [.ref qt, .ref qe, .ref qs, .int (nI g), .ref o1, .ref o2, .ref o3, .ref o4, .ref o5])), (o1, .inr (0, [.ref q1])), (q1, .inl (cI, 32, .inl r1)), (o2, .inr (0, [.ref q2])), (q2, .inl (cI, 32, .inl u.1)), (o3, .inr (0, [.ref q3])), (q3, .inl (cI, 32, .inl u.2.1)), (o4, .inr (0, [.ref q4])), (q4, .inl (cI, 32, .inl u.2.2.1)), (o5, .inr (0, [.ref q5])), (q5, .inl (cI, 32, .inl u.2.2.2))] s9) (va_A [(h0, .inr (1, [.ref qt, .ref qe, .ref qs, .int (nI g), .ref o1, .ref o2, .ref o3, .ref o4, .ref o5])), (o1, .inr (0, [.ref q1])), (q1, .inl (cI, 32, .inl r1)), (o2, .inr (0, [.ref q2])), (q2, .inl (cI, 32, .inl r2)), (o3, .inr (0, [.ref q3])), (q3, .inl (cI, 32, .inl r3)), (o4, .inr (0, [.ref q4])), (q4, .inl (cI, 32, .inl r4)), (o5, .inr (0, [.ref q5])), (q5, .inl (cI, 32, .inl r5))] sz)) 0 0 (va_A [(h0, .inr (1, [.ref qt, .ref qe, .ref qs, .int (nI g), .ref o1, .ref o2, .ref o3, .ref o4, .ref o5])), (o1, .inr (0, [.ref q1])), (q1, .inl (cI, 32, .inl r1)), (o2, .inr (0, [.ref q2])), (q2, .inl (cI, 32, .inl r2)), (o3, .inr (0, [.ref q3])), (q3, .inl (cI, 32, .inl r3)), (o4, .inr (0, [.ref q4])), (q4, .inl (cI, 32, .inl r4)), (o5, .inr (0, [.ref q5])), (q5, .inl (cI, 32, .inl r5))] sz) := by
  refine rk_body (by decide) (Nat.le_of_ble_eq_true rfl) ?_
  intro p e s m below meth c hx hb hml hr htw hown hlocks hin hsz hP hK hD hA hS ls hl
  have hown : s.vm.findClass R_K = some m.cls := hown
  have hl : lv_has ls 1 [(0, .ref h0)] := hl
  refine lv_aload_n hx hb d_K_followEdges_0 rfl (lv_at hl 0 rfl) ?_
  refine va_get (D := (dC, dI)) (ci := 1) (v := .ref o3) (C := R_K) (T := F_K) (N := 9) hx hb htw u_K hown hK hP 0 rfl rfl 6 (by decide) (htw _ l_K_33) (fun _ h9 => h9) rfl d_K_followEdges_1 ?_
  refine lv_aload_n hx hb d_K_followEdges_4 rfl (lv_at hl 0 rfl) ?_
  refine va_get (D := (dC, dI)) (ci := 1) (v := .ref o2) (C := R_K) (T := F_K) (N := 9) hx hb htw u_K hown hK hP 0 rfl rfl 5 (by decide) (htw _ l_K_30) (fun _ h9 => h9) rfl d_K_followEdges_5 ?_
  refine rk_backv (wc := [(o3, .inr (0, [.ref q3])), (q3, .inl (cI, 32, .inl r3)), (o2, .inr (0, [.ref q2])), (q2, .inl (cI, 32, .inl r2))]) (wr := [(h0, .inr (1, [.ref qt, .ref qe, .ref qs, .int (nI g), .ref o1, .ref o2, .ref o3, .ref o4, .ref o5])), (o1, .inr (0, [.ref q1])), (q1, .inl (cI, 32, .inl r1)), (o4, .inr (0, [.ref q4])), (q4, .inl (cI, 32, .inl r4)), (o5, .inr (0, [.ref q5])), (q5, .inl (cI, 32, .inl r5))]) (va_runV (As := [.ref o2]) (rest := []) ⟨hx, hb, hml, hown, htw⟩ (c_P_copyFrom l dC dI cI cZ cJ _ o3 q3 o2 q2 r3 r2) (rk_cwV 1 htw gc_K_followEdges_8 (by decide +kernel) ⟨(Nat.le_of_ble_eq_true rfl), (Nat.le_of_ble_eq_true rfl)⟩) (⟨rk_blind, va_recv hK hP (ci := 0) rfl (q0 := 5) rfl, rk_give (rk_psub (isC := [5, 6, 3, 4]) hP rfl) hK (hD.sub [5, 6, 3, 4] rfl rfl)⟩) rfl rfl hl.1 rfl (lv_room (Nat.le_of_ble_eq_true rfl)) d_K_followEdges_8 ⟨(Nat.le_of_ble_eq_true rfl), (Nat.le_of_ble_eq_true rfl)⟩) hP hD hS hA [5, 6, 3, 4] [0, 1, 2, 7, 8, 9, 10] rfl rfl rfl (by decide) (fun x3 H locs hx3 hP hD hS => ?_)
  have hP : va_P (dC, dI) classes [(h0, .inr (1, [.ref qt, .ref qe, .ref qs, .int (nI g), .ref o1, .ref o2, .ref o3, .ref o4, .ref o5])), (o1, .inr (0, [.ref q1])), (q1, .inl (cI, 32, .inl r1)), (o4, .inr (0, [.ref q4])), (q4, .inl (cI, 32, .inl r4)), (o5, .inr (0, [.ref q5])), (q5, .inl (cI, 32, .inl r5)), (o3, .inr (0, [.ref q3])), (q3, .inl (cI, 32, .inl x3)), (o2, .inr (0, [.ref q2])), (q2, .inl (cI, 32, .inl r2))] H := hP
  have hD : va_D _ [(h0, .inr (1, [.ref qt, .ref qe, .ref qs, .int (nI g), .ref o1, .ref o2, .ref o3, .ref o4, .ref o5])), (o1, .inr (0, [.ref q1])), (q1, .inl (cI, 32, .inl r1)), (o4, .inr (0, [.ref q4])), (q4, .inl (cI, 32, .inl r4)), (o5, .inr (0, [.ref q5])), (q5, .inl (cI, 32, .inl r5)), (o3, .inr (0, [.ref q3])), (q3, .inl (cI, 32, .inl x3)), (o2, .inr (0, [.ref q2])), (q2, .inl (cI, 32, .inl r2))] := hD
  have hP := hP.sub (ws' := [(h0, .inr (1, [.ref qt, .ref qe, .ref qs, .int (nI g), .ref o1, .ref o2, .ref o3, .ref o4, .ref o5])), (o1, .inr (0, [.ref q1])), (q1, .inl (cI, 32, .inl r1)), (o2, .inr (0, [.ref q2])), (q2, .inl (cI, 32, .inl r2)), (o3, .inr (0, [.ref q3])), (q3, .inl (cI, 32, .inl x3)), (o4, .inr (0, [.ref q4])), (q4, .inl (cI, 32, .inl r4)), (o5, .inr (0, [.ref q5])), (q5, .inl (cI, 32, .inl r5))]) [0, 1, 2, 9, 10, 7, 8, 3, 4, 5, 6] rfl
  have hD := hD.sub (ws' := [(h0, .inr (1, [.ref qt, .ref qe, .ref qs, .int (nI g), .ref o1, .ref o2, .ref o3, .ref o4, .ref o5])), (o1, .inr (0, [.ref q1])), (q1, .inl (cI, 32, .inl r1)), (o2, .inr (0, [.ref q2])), (q2, .inl (cI, 32, .inl r2)), (o3, .inr (0, [.ref q3])), (q3, .inl (cI, 32, .inl x3)), (o4, .inr (0, [.ref q4])), (q4, .inl (cI, 32, .inl r4)), (o5, .inr (0, [.ref q5])), (q5, .inl (cI, 32, .inl r5))]) [0, 1, 2, 9, 10, 7, 8, 3, 4, 5, 6] rfl rfl
  refine lv_aload_n hx hb d_K_followEdges_11 rfl (lv_at hl 0 rfl) ?_
  refine va_get (D := (dC, dI)) (ci := 1) (v := .ref o2) (C := R_K) (T := F_K) (N := 9) hx hb htw u_K hown hK hP 0 rfl rfl 5 (by decide) (htw _ l_K_30) (fun _ h9 => h9) rfl d_K_followEdges_12 ?_
  refine lv_aload_n hx hb d_K_followEdges_15 rfl (lv_at hl 0 rfl) ?_
  refine va_get (D := (dC, dI)) (ci := 1) (v := .ref o1) (C := R_K) (T := F_K) (N := 9) hx hb htw u_K hown hK hP 0 rfl rfl 4 (by decide) (htw _ l_K_26) (fun _ h9 => h9) rfl d_K_followEdges_16 ?_
  refine rk_backv (wc := [(o2, .inr (0, [.ref q2])), (q2, .inl (cI, 32, .inl r2)), (o1, .inr (0, [.ref q1])), (q1, .inl (cI, 32, .inl r1))]) (wr := [(h0, .inr (1, [.ref qt, .ref qe, .ref qs, .int (nI g), .ref o1, .ref o2, .ref o3, .ref o4, .ref o5])), (o3, .inr (0, [.ref q3])), (q3, .inl (cI, 32, .inl x3)), (o4, .inr (0, [.ref q4])), (q4, .inl (cI, 32, .inl r4)), (o5, .inr (0, [.ref q5])), (q5, .inl (cI, 32, .inl r5))]) (va_runV (As := [.ref o1]) (rest := []) ⟨hx, hb, hml, hown, htw⟩ (c_P_copyFrom l dC dI cI cZ cJ _ o2 q2 o1 q1 r2 r1) (rk_cwV 1 htw gc_K_followEdges_19 (by decide +kernel) ⟨(Nat.le_of_ble_eq_true rfl), (Nat.le_of_ble_eq_true rfl)⟩) (⟨rk_blind, va_recv hK hP (ci := 0) rfl (q0 := 3) rfl, rk_give (rk_psub (isC := [3, 4, 1, 2]) hP rfl) hK (hD.sub [3, 4, 1, 2] rfl rfl)⟩) rfl rfl hl.1 rfl (lv_room (Nat.le_of_ble_eq_true rfl)) d_K_followEdges_19 ⟨(Nat.le_of_ble_eq_true rfl), (Nat.le_of_ble_eq_true rfl)⟩) hP hD hS hA [3, 4, 1, 2] [0, 5, 6, 7, 8, 9, 10] rfl rfl rfl (by decide) (fun y2 H locs hy2 hP hD hS => ?_)
  have hP : va_P (dC, dI) classes [(h0, .inr (1, [.ref qt, .ref qe, .ref qs, .int (nI g), .ref o1, .ref o2, .ref o3, .ref o4, .ref o5])), (o3, .inr (0, [.ref q3])), (q3, .inl (cI, 32, .inl x3)), (o4, .inr (0, [.ref q4])), (q4, .inl (cI, 32, .inl r4)), (o5, .inr (0, [.ref q5])), (q5, .inl (cI, 32, .inl r5)), (o2, .inr (0, [.ref q2])), (q2, .inl (cI, 32, .inl y2)), (o1, .inr (0, [.ref q1])), (q1, .inl (cI, 32, .inl r1))] H := hP
  have hD : va_D _ [(h0, .inr (1, [.ref qt, .ref qe, .ref qs, .int (nI g), .ref o1, .ref o2, .ref o3, .ref o4, .ref o5])), (o3, .inr (0, [.ref q3])), (q3, .inl (cI, 32, .inl x3)), (o4, .inr (0, [.ref q4])), (q4, .inl (cI, 32, .inl r4)), (o5, .inr (0, [.ref q5])), (q5, .inl (cI, 32, .inl r5)), (o2, .inr (0, [.ref q2])), (q2, .inl (cI, 32, .inl y2)), (o1, .inr (0, [.ref q1])), (q1, .inl (cI, 32, .inl r1))] := hD
  have hP := hP.sub (ws' := [(h0, .inr (1, [.ref qt, .ref qe, .ref qs, .int (nI g), .ref o1, .ref o2, .ref o3, .ref o4, .ref o5])), (o1, .inr (0, [.ref q1])), (q1, .inl (cI, 32, .inl r1)), (o2, .inr (0, [.ref q2])), (q2, .inl (cI, 32, .inl y2)), (o3, .inr (0, [.ref q3])), (q3, .inl (cI, 32, .inl x3)), (o4, .inr (0, [.ref q4])), (q4, .inl (cI, 32, .inl r4)), (o5, .inr (0, [.ref q5])), (q5, .inl (cI, 32, .inl r5))]) [0, 9, 10, 7, 8, 1, 2, 3, 4, 5, 6] rfl
  have hD := hD.sub (ws' := [(h0, .inr (1, [.ref qt, .ref qe, .ref qs, .int (nI g), .ref o1, .ref o2, .ref o3, .ref o4, .ref o5])), (o1, .inr (0, [.ref q1])), (q1, .inl (cI, 32, .inl r1)), (o2, .inr (0, [.ref q2])), (q2, .inl (cI, 32, .inl y2)), (o3, .inr (0, [.ref q3])), (q3, .inl (cI, 32, .inl x3)), (o4, .inr (0, [.ref q4])), (q4, .inl (cI, 32, .inl r4)), (o5, .inr (0, [.ref q5])), (q5, .inl (cI, 32, .inl r5))]) [0, 9, 10, 7, 8, 1, 2, 3, 4, 5, 6] rfl rfl
  refine lv_aload_n hx hb d_K_followEdges_22 rfl (lv_at hl 0 rfl) ?_
  refine va_get (D := (dC, dI)) (ci := 1) (v := .ref o2) (C := R_K) (T := F_K) (N := 9) hx hb htw u_K hown hK hP 0 rfl rfl 5 (by decide) (htw _ l_K_30) (fun _ h9 => h9) rfl d_K_followEdges_23 ?_
  refine rk_backv (wc := [(o2, .inr (0, [.ref q2])), (q2, .inl (cI, 32, .inl y2))]) (wr := [(h0, .inr (1, [.ref qt, .ref qe, .ref qs, .int (nI g), .ref o1, .ref o2, .ref o3, .ref o4, .ref o5])), (o1, .inr (0, [.ref q1])), (q1, .inl (cI, 32, .inl r1)), (o3, .inr (0, [.ref q3])), (q3, .inl (cI, 32, .inl x3)), (o4, .inr (0, [.ref q4])), (q4, .inl (cI, 32, .inl r4)), (o5, .inr (0, [.ref q5])), (q5, .inl (cI, 32, .inl r5))]) (va_runV (As := []) (rest := []) ⟨hx, hb, hml, hown, htw⟩ (c_P_joinWays l dC dI cI cZ cJ _ o2 q2 y2 e0 (rk_copy hR1 hy2)) (rk_cwV 0 htw gc_K_followEdges_26 (by decide +kernel) ⟨(Nat.le_of_ble_eq_true rfl), (Nat.le_of_ble_eq_true rfl)⟩) (⟨rk_blind, va_recv hK hP (ci := 0) rfl (q0 := 3) rfl, rk_give (rk_psub (isC := [3, 4]) hP rfl) hK (hD.sub [3, 4] rfl rfl)⟩) rfl rfl hl.1 rfl (lv_room (Nat.le_of_ble_eq_true rfl)) d_K_followEdges_26 ⟨(Nat.le_of_ble_eq_true rfl), (Nat.le_of_ble_eq_true rfl)⟩) hP hD hS hA [3, 4] [0, 1, 2, 5, 6, 7, 8, 9, 10] rfl rfl rfl (by decide) (fun x2 H locs hx2 hP hD hS => ?_)
  have hP : va_P (dC, dI) classes [(h0, .inr (1, [.ref qt, .ref qe, .ref qs, .int (nI g), .ref o1, .ref o2, .ref o3, .ref o4, .ref o5])), (o1, .inr (0, [.ref q1])), (q1, .inl (cI, 32, .inl r1)), (o3, .inr (0, [.ref q3])), (q3, .inl (cI, 32, .inl x3)), (o4, .inr (0, [.ref q4])), (q4, .inl (cI, 32, .inl r4)), (o5, .inr (0, [.ref q5])), (q5, .inl (cI, 32, .inl r5)), (o2, .inr (0, [.ref q2])), (q2, .inl (cI, 32, .inl x2))] H := hP
  have hD : va_D _ [(h0, .inr (1, [.ref qt, .ref qe, .ref qs, .int (nI g), .ref o1, .ref o2, .ref o3, .ref o4, .ref o5])), (o1, .inr (0, [.ref q1])), (q1, .inl (cI, 32, .inl r1)), (o3, .inr (0, [.ref q3])), (q3, .inl (cI, 32, .inl x3)), (o4, .inr (0, [.ref q4])), (q4, .inl (cI, 32, .inl r4)), (o5, .inr (0, [.ref q5])), (q5, .inl (cI, 32, .inl r5)), (o2, .inr (0, [.ref q2])), (q2, .inl (cI, 32, .inl x2))] := hD
  have hP := hP.sub (ws' := [(h0, .inr (1, [.ref qt, .ref qe, .ref qs, .int (nI g), .ref o1, .ref o2, .ref o3, .ref o4, .ref o5])), (o1, .inr (0, [.ref q1])), (q1, .inl (cI, 32, .inl r1)), (o2, .inr (0, [.ref q2])), (q2, .inl (cI, 32, .inl x2)), (o3, .inr (0, [.ref q3])), (q3, .inl (cI, 32, .inl x3)), (o4, .inr (0, [.ref q4])), (q4, .inl (cI, 32, .inl r4)), (o5, .inr (0, [.ref q5])), (q5, .inl (cI, 32, .inl r5))]) [0, 1, 2, 9, 10, 3, 4, 5, 6, 7, 8] rfl
  have hD := hD.sub (ws' := [(h0, .inr (1, [.ref qt, .ref qe, .ref qs, .int (nI g), .ref o1, .ref o2, .ref o3, .ref o4, .ref o5])), (o1, .inr (0, [.ref q1])), (q1, .inl (cI, 32, .inl r1)), (o2, .inr (0, [.ref q2])), (q2, .inl (cI, 32, .inl x2)), (o3, .inr (0, [.ref q3])), (q3, .inl (cI, 32, .inl x3)), (o4, .inr (0, [.ref q4])), (q4, .inl (cI, 32, .inl r4)), (o5, .inr (0, [.ref q5])), (q5, .inl (cI, 32, .inl r5))]) [0, 1, 2, 9, 10, 3, 4, 5, 6, 7, 8] rfl rfl
  refine lv_aload_n hx hb d_K_followEdges_29 rfl (lv_at hl 0 rfl) ?_
  refine va_get (D := (dC, dI)) (ci := 1) (v := .ref o4) (C := R_K) (T := F_K) (N := 9) hx hb htw u_K hown hK hP 0 rfl rfl 7 (by decide) (htw _ l_K_36) (fun _ h9 => h9) rfl d_K_followEdges_30 ?_
  refine lv_aload_n hx hb d_K_followEdges_33 rfl (lv_at hl 0 rfl) ?_
  refine va_get (D := (dC, dI)) (ci := 1) (v := .ref o2) (C := R_K) (T := F_K) (N := 9) hx hb htw u_K hown hK hP 0 rfl rfl 5 (by decide) (htw _ l_K_30) (fun _ h9 => h9) rfl d_K_followEdges_34 ?_
  refine lv_aload_n hx hb d_K_followEdges_37 rfl (lv_at hl 0 rfl) ?_
  refine va_get (D := (dC, dI)) (ci := 1) (v := .ref o3) (C := R_K) (T := F_K) (N := 9) hx hb htw u_K hown hK hP 0 rfl rfl 6 (by decide) (htw _ l_K_33) (fun _ h9 => h9) rfl d_K_followEdges_38 ?_
  refine rk_backv (wc := [(o4, .inr (0, [.ref q4])), (q4, .inl (cI, 32, .inl r4)), (o2, .inr (0, [.ref q2])), (q2, .inl (cI, 32, .inl x2)), (o3, .inr (0, [.ref q3])), (q3, .inl (cI, 32, .inl x3))]) (wr := [(h0, .inr (1, [.ref qt, .ref qe, .ref qs, .int (nI g), .ref o1, .ref o2, .ref o3, .ref o4, .ref o5])), (o1, .inr (0, [.ref q1])), (q1, .inl (cI, 32, .inl r1)), (o5, .inr (0, [.ref q5])), (q5, .inl (cI, 32, .inl r5))]) (va_runV (As := [.ref o2, .ref o3]) (rest := []) ⟨hx, hb, hml, hown, htw⟩ (c_P_becomeDifference l dC dI cI cZ cJ _ o4 q4 o2 q2 o3 q3 r4 x2 x3) (rk_cwV 2 htw gc_K_followEdges_41 (by decide +kernel) ⟨(Nat.le_of_ble_eq_true rfl), (Nat.le_of_ble_eq_true rfl)⟩) (⟨rk_blind, va_recv hK hP (ci := 0) rfl (q0 := 7) rfl, rk_give (rk_psub (isC := [7, 8, 3, 4, 5, 6]) hP rfl) hK (hD.sub [7, 8, 3, 4, 5, 6] rfl rfl)⟩) rfl rfl hl.1 rfl (lv_room (Nat.le_of_ble_eq_true rfl)) d_K_followEdges_41 ⟨(Nat.le_of_ble_eq_true rfl), (Nat.le_of_ble_eq_true rfl)⟩) hP hD hS hA [7, 8, 3, 4, 5, 6] [0, 1, 2, 9, 10] rfl rfl rfl (by decide) (fun x4 H locs hx4 hP hD hS => ?_)
  have hP : va_P (dC, dI) classes [(h0, .inr (1, [.ref qt, .ref qe, .ref qs, .int (nI g), .ref o1, .ref o2, .ref o3, .ref o4, .ref o5])), (o1, .inr (0, [.ref q1])), (q1, .inl (cI, 32, .inl r1)), (o5, .inr (0, [.ref q5])), (q5, .inl (cI, 32, .inl r5)), (o4, .inr (0, [.ref q4])), (q4, .inl (cI, 32, .inl x4)), (o2, .inr (0, [.ref q2])), (q2, .inl (cI, 32, .inl x2)), (o3, .inr (0, [.ref q3])), (q3, .inl (cI, 32, .inl x3))] H := hP
  have hD : va_D _ [(h0, .inr (1, [.ref qt, .ref qe, .ref qs, .int (nI g), .ref o1, .ref o2, .ref o3, .ref o4, .ref o5])), (o1, .inr (0, [.ref q1])), (q1, .inl (cI, 32, .inl r1)), (o5, .inr (0, [.ref q5])), (q5, .inl (cI, 32, .inl r5)), (o4, .inr (0, [.ref q4])), (q4, .inl (cI, 32, .inl x4)), (o2, .inr (0, [.ref q2])), (q2, .inl (cI, 32, .inl x2)), (o3, .inr (0, [.ref q3])), (q3, .inl (cI, 32, .inl x3))] := hD
  have hP := hP.sub (ws' := [(h0, .inr (1, [.ref qt, .ref qe, .ref qs, .int (nI g), .ref o1, .ref o2, .ref o3, .ref o4, .ref o5])), (o1, .inr (0, [.ref q1])), (q1, .inl (cI, 32, .inl r1)), (o2, .inr (0, [.ref q2])), (q2, .inl (cI, 32, .inl x2)), (o3, .inr (0, [.ref q3])), (q3, .inl (cI, 32, .inl x3)), (o4, .inr (0, [.ref q4])), (q4, .inl (cI, 32, .inl x4)), (o5, .inr (0, [.ref q5])), (q5, .inl (cI, 32, .inl r5))]) [0, 1, 2, 7, 8, 9, 10, 5, 6, 3, 4] rfl
  have hD := hD.sub (ws' := [(h0, .inr (1, [.ref qt, .ref qe, .ref qs, .int (nI g), .ref o1, .ref o2, .ref o3, .ref o4, .ref o5])), (o1, .inr (0, [.ref q1])), (q1, .inl (cI, 32, .inl r1)), (o2, .inr (0, [.ref q2])), (q2, .inl (cI, 32, .inl x2)), (o3, .inr (0, [.ref q3])), (q3, .inl (cI, 32, .inl x3)), (o4, .inr (0, [.ref q4])), (q4, .inl (cI, 32, .inl x4)), (o5, .inr (0, [.ref q5])), (q5, .inl (cI, 32, .inl r5))]) [0, 1, 2, 7, 8, 9, 10, 5, 6, 3, 4] rfl rfl
  refine lv_aload_n hx hb d_K_followEdges_44 rfl (lv_at hl 0 rfl) ?_
  refine va_get (D := (dC, dI)) (ci := 1) (v := .ref o5) (C := R_K) (T := F_K) (N := 9) hx hb htw u_K hown hK hP 0 rfl rfl 8 (by decide) (htw _ l_K_39) (fun _ h9 => h9) rfl d_K_followEdges_45 ?_
  refine lv_aload_n hx hb d_K_followEdges_48 rfl (lv_at hl 0 rfl) ?_
  refine va_get (D := (dC, dI)) (ci := 1) (v := .ref o3) (C := R_K) (T := F_K) (N := 9) hx hb htw u_K hown hK hP 0 rfl rfl 6 (by decide) (htw _ l_K_33) (fun _ h9 => h9) rfl d_K_followEdges_49 ?_
  refine lv_aload_n hx hb d_K_followEdges_52 rfl (lv_at hl 0 rfl) ?_
  refine va_get (D := (dC, dI)) (ci := 1) (v := .ref o2) (C := R_K) (T := F_K) (N := 9) hx hb htw u_K hown hK hP 0 rfl rfl 5 (by decide) (htw _ l_K_30) (fun _ h9 => h9) rfl d_K_followEdges_53 ?_
  refine rk_backv (wc := [(o5, .inr (0, [.ref q5])), (q5, .inl (cI, 32, .inl r5)), (o3, .inr (0, [.ref q3])), (q3, .inl (cI, 32, .inl x3)), (o2, .inr (0, [.ref q2])), (q2, .inl (cI, 32, .inl x2))]) (wr := [(h0, .inr (1, [.ref qt, .ref qe, .ref qs, .int (nI g), .ref o1, .ref o2, .ref o3, .ref o4, .ref o5])), (o1, .inr (0, [.ref q1])), (q1, .inl (cI, 32, .inl r1)), (o4, .inr (0, [.ref q4])), (q4, .inl (cI, 32, .inl x4))]) (va_runV (As := [.ref o3, .ref o2]) (rest := []) ⟨hx, hb, hml, hown, htw⟩ (c_P_becomeDifference l dC dI cI cZ cJ _ o5 q5 o3 q3 o2 q2 r5 x3 x2) (rk_cwV 2 htw gc_K_followEdges_56 (by decide +kernel) ⟨(Nat.le_of_ble_eq_true rfl), (Nat.le_of_ble_eq_true rfl)⟩) (⟨rk_blind, va_recv hK hP (ci := 0) rfl (q0 := 9) rfl, rk_give (rk_psub (isC := [9, 10, 5, 6, 3, 4]) hP rfl) hK (hD.sub [9, 10, 5, 6, 3, 4] rfl rfl)⟩) rfl rfl hl.1 rfl (lv_room (Nat.le_of_ble_eq_true rfl)) d_K_followEdges_56 ⟨(Nat.le_of_ble_eq_true rfl), (Nat.le_of_ble_eq_true rfl)⟩) hP hD hS hA [9, 10, 5, 6, 3, 4] [0, 1, 2, 7, 8] rfl rfl rfl (by decide) (fun x5 H locs hx5 hP hD hS => ?_)
  have hP : va_P (dC, dI) classes [(h0, .inr (1, [.ref qt, .ref qe, .ref qs, .int (nI g), .ref o1, .ref o2, .ref o3, .ref o4, .ref o5])), (o1, .inr (0, [.ref q1])), (q1, .inl (cI, 32, .inl r1)), (o4, .inr (0, [.ref q4])), (q4, .inl (cI, 32, .inl x4)), (o5, .inr (0, [.ref q5])), (q5, .inl (cI, 32, .inl x5)), (o3, .inr (0, [.ref q3])), (q3, .inl (cI, 32, .inl x3)), (o2, .inr (0, [.ref q2])), (q2, .inl (cI, 32, .inl x2))] H := hP
  have hD : va_D _ [(h0, .inr (1, [.ref qt, .ref qe, .ref qs, .int (nI g), .ref o1, .ref o2, .ref o3, .ref o4, .ref o5])), (o1, .inr (0, [.ref q1])), (q1, .inl (cI, 32, .inl r1)), (o4, .inr (0, [.ref q4])), (q4, .inl (cI, 32, .inl x4)), (o5, .inr (0, [.ref q5])), (q5, .inl (cI, 32, .inl x5)), (o3, .inr (0, [.ref q3])), (q3, .inl (cI, 32, .inl x3)), (o2, .inr (0, [.ref q2])), (q2, .inl (cI, 32, .inl x2))] := hD
  have hP := hP.sub (ws' := [(h0, .inr (1, [.ref qt, .ref qe, .ref qs, .int (nI g), .ref o1, .ref o2, .ref o3, .ref o4, .ref o5])), (o1, .inr (0, [.ref q1])), (q1, .inl (cI, 32, .inl r1)), (o2, .inr (0, [.ref q2])), (q2, .inl (cI, 32, .inl x2)), (o3, .inr (0, [.ref q3])), (q3, .inl (cI, 32, .inl x3)), (o4, .inr (0, [.ref q4])), (q4, .inl (cI, 32, .inl x4)), (o5, .inr (0, [.ref q5])), (q5, .inl (cI, 32, .inl x5))]) [0, 1, 2, 9, 10, 7, 8, 3, 4, 5, 6] rfl
  have hD := hD.sub (ws' := [(h0, .inr (1, [.ref qt, .ref qe, .ref qs, .int (nI g), .ref o1, .ref o2, .ref o3, .ref o4, .ref o5])), (o1, .inr (0, [.ref q1])), (q1, .inl (cI, 32, .inl r1)), (o2, .inr (0, [.ref q2])), (q2, .inl (cI, 32, .inl x2)), (o3, .inr (0, [.ref q3])), (q3, .inl (cI, 32, .inl x3)), (o4, .inr (0, [.ref q4])), (q4, .inl (cI, 32, .inl x4)), (o5, .inr (0, [.ref q5])), (q5, .inl (cI, 32, .inl x5))]) [0, 1, 2, 9, 10, 7, 8, 3, 4, 5, 6] rfl rfl
  exact rk_vret ((x2, x3, x4, x5)) hx hb hr hlocks (⟨hx2, rk_diff hx2 (rk_copy hR2 hx3) hx4, rk_diff (rk_copy hR2 hx3) hx2 hx5⟩) rfl hP hK hD hS d_K_followEdges_59
set_option maxHeartbeats 4000000 in
set_option maxRecDepth 100000 in
theorem c_K_sumOfCounts (l : Launch) (dC : Nat → ClassId) (dI : Nat → Nat → Nat) (cI cZ cJ : ClassId) (sz : Nat) (h0 qt qe qs o1 o2 o3 o4 o5 : Nat) (g : Nat) (t : Nat → Int32) : Met l y_K_sumOfCounts (.code y_K_sumOfCounts b_K_sumOfCounts 3 (some .int) :: WT) { frames := 0, cells := 0, slots := 0, locals := 0 } (va_Pc [.ref h0] (rk_pre (dC, dI) [(cI, .int), (cZ, .boolean), (cJ, .long)] sz [(h0, .inr (1, [.ref qt, .ref qe, .ref qs, .int (nI g), .ref o1, .ref o2, .ref o3, .ref o4, .ref o5])), (qt, .inl (cI, 1024, .inl t))])) (va_Qi (fun (r : Int32) (u : Unit) => r = rk_t t 1024) (fun _ s9 => rk_at (dC, dI) [(cI, .int), (cZ, .boolean), (cJ, .long)] (va_A [(h0, .inr (1, [.ref qt, .ref qe, .ref qs, .int (nI g), .ref o1, .ref o2, .ref o3, .ref o4, .ref o5])), (qt, .inl (cI, 1024, .inl t))] sz) [(h0, .inr (1, [.ref qt, .ref qe, .ref qs, .int (nI g), .ref o1, .ref o2, .ref o3, .ref o4, .ref o5])), (qt, .inl (cI, 1024, .inl t))] s9) (va_A [(h0, .inr (1, [.ref qt, .ref qe, .ref qs, .int (nI g), .ref o1, .ref o2, .ref o3, .ref o4, .ref o5])), (qt, .inl (cI, 1024, .inl t))] sz)) 0 0 (va_A [(h0, .inr (1, [.ref qt, .ref qe, .ref qs, .int (nI g), .ref o1, .ref o2, .ref o3, .ref o4, .ref o5])), (qt, .inl (cI, 1024, .inl t))] sz) := by
  refine rk_body (by decide) (Nat.le_of_ble_eq_true rfl) ?_
  intro p e s m below meth c hx hb hml hr htw hown hlocks hin hsz hP hK hD hA hS ls hl
  have hown : s.vm.findClass R_K = some m.cls := hown
  have hl : lv_has ls 3 [(0, .ref h0)] := hl
  refine lv_iconst (v := nI 0) hx hb d_K_sumOfCounts_0 (by decide) ?_
  refine lv_istore_n (lv' := [(1, .int (nI 0)), (0, .ref h0)]) hx hb d_K_sumOfCounts_1 rfl hl (by decide) rfl (fun ls hl => ?_)
  refine lv_iconst (v := nI 0) hx hb d_K_sumOfCounts_2 (by decide) ?_
  refine lv_istore_n (lv' := [(2, .int (nI 0)), (1, .int (nI 0)), (0, .ref h0)]) hx hb d_K_sumOfCounts_3 rfl hl (by decide) rfl (fun ls hl => ?_)
  have lp : ∀ (kf : Nat) (i : Nat), 1024 - i < kf → i ≤ 1024 → ∀ (ls : Array Slot) (H : Heap) (locs : List Loc), lv_has ls 3 [(2, .int (nI i)), (1, .int (rk_t t i)), (0, .ref h0)] → va_P (dC, dI) classes [(h0, .inr (1, [.ref qt, .ref qe, .ref qs, .int (nI g), .ref o1, .ref o2, .ref o3, .ref o4, .ref o5])), (qt, .inl (cI, 1024, .inl t))] H → va_D (va_A [(h0, .inr (1, [.ref qt, .ref qe, .ref qs, .int (nI g), .ref o1, .ref o2, .ref o3, .ref o4, .ref o5])), (qt, .inl (cI, 1024, .inl t))] sz) [(h0, .inr (1, [.ref qt, .ref qe, .ref qs, .int (nI g), .ref o1, .ref o2, .ref o3, .ref o4, .ref o5])), (qt, .inl (cI, 1024, .inl t))] → va_S (va_A [(h0, .inr (1, [.ref qt, .ref qe, .ref qs, .int (nI g), .ref o1, .ref o2, .ref o3, .ref o4, .ref o5])), (qt, .inl (cI, 1024, .inl t))] sz) s.heap H locs → W p l e { frames := 0, cells := 0, slots := 0, locals := 0 } s m ([.ref h0]).toArray below meth c H locs 0 0 (MQ below (va_Qi (fun (r : Int32) (u : Unit) => r = rk_t t 1024) (fun _ s9 => rk_at (dC, dI) [(cI, .int), (cZ, .boolean), (cJ, .long)] (va_A [(h0, .inr (1, [.ref qt, .ref qe, .ref qs, .int (nI g), .ref o1, .ref o2, .ref o3, .ref o4, .ref o5])), (qt, .inl (cI, 1024, .inl t))] sz) [(h0, .inr (1, [.ref qt, .ref qe, .ref qs, .int (nI g), .ref o1, .ref o2, .ref o3, .ref o4, .ref o5])), (qt, .inl (cI, 1024, .inl t))] s9) (va_A [(h0, .inr (1, [.ref qt, .ref qe, .ref qs, .int (nI g), .ref o1, .ref o2, .ref o3, .ref o4, .ref o5])), (qt, .inl (cI, 1024, .inl t))] sz)) ([.ref h0]).toArray s 0 0 (va_A [(h0, .inr (1, [.ref qt, .ref qe, .ref qs, .int (nI g), .ref o1, .ref o2, .ref o3, .ref o4, .ref o5])), (qt, .inl (cI, 1024, .inl t))] sz)) (F0 m 4 ls []) := by
    intro kf
    induction kf with
    | zero => intro i hk hi; exact absurd hk (by omega)
    | succ kf ih =>
      intro i hk hi ls H locs hl hP hD hS
      refine lv_iload_n hx hb d_K_sumOfCounts_4 rfl (lv_at hl 0 rfl) ?_
      refine lv_aload_n hx hb d_K_sumOfCounts_5 rfl (lv_at hl 2 rfl) ?_
      refine va_get (D := (dC, dI)) (ci := 1) (v := .ref qt) (C := R_K) (T := F_K) (N := 9) hx hb htw u_K hown hK hP 0 rfl rfl 0 (by decide) (htw _ l_K_9) (fun _ h9 => h9) rfl d_K_sumOfCounts_6 ?_
      refine va_alen (v := nI 1024) hx hb hK hP 1 0 rfl rfl rfl d_K_sumOfCounts_9 ?_
      refine lv_icmp_ge (tgt := 28) hx hb d_K_sumOfCounts_10 (by decide) (fun hc => ?_) (fun hc => ?_)
      · have hc := (nI_leI (by omega) (by omega)).mp hc
        refine lv_iload_n hx hb d_K_sumOfCounts_28 rfl (lv_at hl 1 rfl) ?_
        exact rk_iret (()) hx hb hr hlocks (by rw [show i = 1024 by omega]) rfl hP hK hD hS d_K_sumOfCounts_29
      · have hc := rk_gt (by omega) (by omega) hc
        refine lv_iload_n hx hb d_K_sumOfCounts_13 rfl (lv_at hl 1 rfl) ?_
        refine lv_aload_n hx hb d_K_sumOfCounts_14 rfl (lv_at hl 2 rfl) ?_
        refine va_get (D := (dC, dI)) (ci := 1) (v := .ref qt) (C := R_K) (T := F_K) (N := 9) hx hb htw u_K hown hK hP 0 rfl rfl 0 (by decide) (htw _ l_K_9) (fun _ h9 => h9) rfl d_K_sumOfCounts_15 ?_
        refine lv_iload_n hx hb d_K_sumOfCounts_18 rfl (lv_at hl 0 rfl) ?_
        refine va_iald hx hb hK hP 1 0 rfl rfl (vp_in_nI (n := i) (show i < 1024 by omega) (by decide)) d_K_sumOfCounts_19 ?_
        refine rk_top (y := t i) (congrArg t (nI_clamp (show i < 2 ^ 31 by omega))) ?_
        refine lv_iadd hx hb d_K_sumOfCounts_20 ?_
        refine lv_istore_n (lv' := [(1, .int ((rk_t t i) + (t i))), (2, .int (nI i)), (0, .ref h0)]) hx hb d_K_sumOfCounts_21 rfl hl (by decide) rfl (fun ls hl => ?_)
        refine lv_iinc (k := 1) (v := nI (i + 1)) (lv' := [(2, .int (nI (i + 1))), (1, .int ((rk_t t i) + (t i))), (0, .ref h0)]) hx hb d_K_sumOfCounts_22 hl rfl (nI_1 i) (by decide) rfl (fun ls hl => ?_)
        refine lv_goto (tgt := 4) hx hb d_K_sumOfCounts_25 (by decide) ?_
        exact ih (i + 1) (by omega) (by omega) ls H locs hl hP hD hS
  exact lp 1025 0 (by omega) (by omega) ls _ _ hl hP hD hS
set_option maxHeartbeats 4000000 in
set_option maxRecDepth 100000 in
theorem c_K_forget (l : Launch) (dC : Nat → ClassId) (dI : Nat → Nat → Nat) (cI cZ cJ : ClassId) (sz : Nat) (h0 qt qe qs o1 o2 o3 o4 o5 : Nat) (g : Nat) (hg : g ≤ 60) (pp : Nat → Nat) (ge : Nat → Int32) (hge : ∀ i, i < g → ge i = nI (pp i) ∧ pp i < 1024) (gs : Nat → Int32) : Met l y_K_forget (.code y_K_forget b_K_forget 2 (some .int) :: WT) { frames := 1, cells := 0, slots := 0, locals := 21 } (va_Pc [.ref h0] (rk_pre (dC, dI) [(cI, .int), (cZ, .boolean), (cJ, .long)] sz [(h0, .inr (1, [.ref qt, .ref qe, .ref qs, .int (nI g), .ref o1, .ref o2, .ref o3, .ref o4, .ref o5])), (qe, .inl (cI, 60, .inl ge)), (qs, .inl (cI, 1024, .inl gs))])) (va_Qi (fun (r : Int32) (u : Nat → Int32) => r = nI g ∧ ∀ p, p < 1024 → u p = if rk_in pp g p = true then 0 else gs p) (fun u s9 => rk_at (dC, dI) [(cI, .int), (cZ, .boolean), (cJ, .long)] (va_A [(h0, .inr (1, [.ref qt, .ref qe, .ref qs, .int (nI g), .ref o1, .ref o2, .ref o3, .ref o4, .ref o5])), (qe, .inl (cI, 60, .inl ge)), (qs, .inl (cI, 1024, .inl gs))] sz) [(h0, .inr (1, [.ref qt, .ref qe, .ref qs, .int (nI 0), .ref o1, .ref o2, .ref o3, .ref o4, .ref o5])), (qe, .inl (cI, 60, .inl ge)), (qs, .inl (cI, 1024, .inl u))] s9) (va_A [(h0, .inr (1, [.ref qt, .ref qe, .ref qs, .int (nI g), .ref o1, .ref o2, .ref o3, .ref o4, .ref o5])), (qe, .inl (cI, 60, .inl ge)), (qs, .inl (cI, 1024, .inl gs))] sz)) 0 0 (va_A [(h0, .inr (1, [.ref qt, .ref qe, .ref qs, .int (nI g), .ref o1, .ref o2, .ref o3, .ref o4, .ref o5])), (qe, .inl (cI, 60, .inl ge)), (qs, .inl (cI, 1024, .inl gs))] sz) := by
  refine rk_body (by decide) (Nat.le_of_ble_eq_true rfl) ?_
  intro p e s m below meth c hx hb hml hr htw hown hlocks hin hsz hP hK hD hA hS ls hl
  have hown : s.vm.findClass R_K = some m.cls := hown
  have hl : lv_has ls 2 [(0, .ref h0)] := hl
  refine lv_aload_n hx hb d_K_forget_0 rfl (lv_at hl 0 rfl) ?_
  refine va_get (D := (dC, dI)) (ci := 1) (v := .int (nI g)) (C := R_K) (T := F_K) (N := 9) hx hb htw u_K hown hK hP 0 rfl rfl 3 (by decide) (htw _ l_K_19) (fun _ h9 => h9) rfl d_K_forget_1 ?_
  refine lv_istore_n (lv' := [(1, .int (nI g)), (0, .ref h0)]) hx hb d_K_forget_4 rfl hl (by decide) rfl (fun ls hl => ?_)
  refine lv_aload_n hx hb d_K_forget_5 rfl (lv_at hl 1 rfl) ?_
  refine rk_backv (wc := [(h0, .inr (1, [.ref qt, .ref qe, .ref qs, .int (nI g), .ref o1, .ref o2, .ref o3, .ref o4, .ref o5])), (qe, .inl (cI, 60, .inl ge)), (qs, .inl (cI, 1024, .inl gs))]) (wr := []) (va_runV (As := []) (rest := []) ⟨hx, hb, hml, hown, htw⟩ (c_K_clearGathered l dC dI cI cZ cJ _ h0 qt qe qs o1 o2 o3 o4 o5 g hg pp ge hge gs) (rk_cwV 0 htw gc_K_forget_6 (by decide +kernel) ⟨(Nat.le_of_ble_eq_true rfl), (Nat.le_of_ble_eq_true rfl)⟩) (⟨rk_blind, va_recv hK hP (ci := 1) rfl (q0 := 0) rfl, rk_give (rk_psub (isC := [0, 1, 2]) hP rfl) hK (hD.sub [0, 1, 2] rfl rfl)⟩) rfl rfl hl.1 rfl (lv_room (Nat.le_of_ble_eq_true rfl)) d_K_forget_6 ⟨(Nat.le_of_ble_eq_true rfl), (Nat.le_of_ble_eq_true rfl)⟩) hP hD hS hA [0, 1, 2] [] rfl rfl rfl (by decide) (fun x H locs hx9 hP hD hS => ?_)
  have hP : va_P (dC, dI) classes [(h0, .inr (1, [.ref qt, .ref qe, .ref qs, .int (nI 0), .ref o1, .ref o2, .ref o3, .ref o4, .ref o5])), (qe, .inl (cI, 60, .inl ge)), (qs, .inl (cI, 1024, .inl x))] H := hP
  have hD : va_D _ [(h0, .inr (1, [.ref qt, .ref qe, .ref qs, .int (nI 0), .ref o1, .ref o2, .ref o3, .ref o4, .ref o5])), (qe, .inl (cI, 60, .inl ge)), (qs, .inl (cI, 1024, .inl x))] := hD
  refine lv_iload_n hx hb d_K_forget_9 rfl (lv_at hl 0 rfl) ?_
  exact rk_iret (x) hx hb hr hlocks (⟨rfl, hx9⟩) rfl hP hK hD hS d_K_forget_10
set_option maxHeartbeats 4000000 in
set_option maxRecDepth 100000 in
theorem c_K_count (l : Launch) (dC : Nat → ClassId) (dI : Nat → Nat → Nat) (cI cZ cJ : ClassId) (sz : Nat) (h0 qt qe qs o1 o2 o3 o4 o5 : Nat) (g : Nat) (q1 q2 q4 q5 : Nat) (t r1 r2 r4 r5 : Nat → Int32) (h k : Nat → Bool) (hR1 : rk_R r1 (fun p => decide (0 < t p))) (hR2 : rk_R r2 h) (hR4 : rk_R r4 (rk_came h k true)) (hR5 : rk_R r5 (rk_came h k false)) (x : Int32) : Met l y_K_count (.code y_K_count b_K_count 2 (some .int) :: WT) { frames := 4, cells := 0, slots := 0, locals := 87 } (va_Pc [.ref h0, .int x] (rk_pre (dC, dI) [(cI, .int), (cZ, .boolean), (cJ, .long)] sz [(h0, .inr (1, [.ref qt, .ref qe, .ref qs, .int (nI g), .ref o1, .ref o2, .ref o3, .ref o4, .ref o5])), (qt, .inl (cI, 1024, .inl t)), (o1, .inr (0, [.ref q1])), (q1, .inl (cI, 32, .inl r1)), (o2, .inr (0, [.ref q2])), (q2, .inl (cI, 32, .inl r2)), (o4, .inr (0, [.ref q4])), (q4, .inl (cI, 32, .inl r4)), (o5, .inr (0, [.ref q5])), (q5, .inl (cI, 32, .inl r5))])) (va_Qi (fun (r : Int32) (u : Unit) => r = rk_coF t h k g x) (fun _ s9 => rk_at (dC, dI) [(cI, .int), (cZ, .boolean), (cJ, .long)] (va_A [(h0, .inr (1, [.ref qt, .ref qe, .ref qs, .int (nI g), .ref o1, .ref o2, .ref o3, .ref o4, .ref o5])), (qt, .inl (cI, 1024, .inl t)), (o1, .inr (0, [.ref q1])), (q1, .inl (cI, 32, .inl r1)), (o2, .inr (0, [.ref q2])), (q2, .inl (cI, 32, .inl r2)), (o4, .inr (0, [.ref q4])), (q4, .inl (cI, 32, .inl r4)), (o5, .inr (0, [.ref q5])), (q5, .inl (cI, 32, .inl r5))] sz) [(h0, .inr (1, [.ref qt, .ref qe, .ref qs, .int (nI g), .ref o1, .ref o2, .ref o3, .ref o4, .ref o5])), (qt, .inl (cI, 1024, .inl t)), (o1, .inr (0, [.ref q1])), (q1, .inl (cI, 32, .inl r1)), (o2, .inr (0, [.ref q2])), (q2, .inl (cI, 32, .inl r2)), (o4, .inr (0, [.ref q4])), (q4, .inl (cI, 32, .inl r4)), (o5, .inr (0, [.ref q5])), (q5, .inl (cI, 32, .inl r5))] s9) (va_A [(h0, .inr (1, [.ref qt, .ref qe, .ref qs, .int (nI g), .ref o1, .ref o2, .ref o3, .ref o4, .ref o5])), (qt, .inl (cI, 1024, .inl t)), (o1, .inr (0, [.ref q1])), (q1, .inl (cI, 32, .inl r1)), (o2, .inr (0, [.ref q2])), (q2, .inl (cI, 32, .inl r2)), (o4, .inr (0, [.ref q4])), (q4, .inl (cI, 32, .inl r4)), (o5, .inr (0, [.ref q5])), (q5, .inl (cI, 32, .inl r5))] sz)) 0 0 (va_A [(h0, .inr (1, [.ref qt, .ref qe, .ref qs, .int (nI g), .ref o1, .ref o2, .ref o3, .ref o4, .ref o5])), (qt, .inl (cI, 1024, .inl t)), (o1, .inr (0, [.ref q1])), (q1, .inl (cI, 32, .inl r1)), (o2, .inr (0, [.ref q2])), (q2, .inl (cI, 32, .inl r2)), (o4, .inr (0, [.ref q4])), (q4, .inl (cI, 32, .inl r4)), (o5, .inr (0, [.ref q5])), (q5, .inl (cI, 32, .inl r5))] sz) := by
  refine rk_body (by decide) (Nat.le_of_ble_eq_true rfl) ?_
  intro p e s m below meth c hx hb hml hr htw hown hlocks hin hsz hP hK hD hA hS ls hl
  have hown : s.vm.findClass R_K = some m.cls := hown
  have hl : lv_has ls 2 [(0, .ref h0), (1, .int x)] := hl
  refine lv_iload_n hx hb d_K_count_0 rfl (lv_at hl 1 rfl) ?_
  rcases pk_ix x (n := 8) (by decide) with hneg | hbig | ⟨j, hj, rfl⟩
  · refine lv_tableOut (tgt := 106) hx hb d_K_count_1 (Or.inl (by have := Int32.lt_iff_toInt_lt.mp hneg; rw [Int32.toInt_zero] at this; exact this)) (by decide) ?_
    refine lv_iconst (v := -1) hx hb d_K_count_106 (by decide) ?_
    exact rk_iret (()) hx hb hr hlocks ((rk_coF_out (Or.inl hneg)).symm) rfl hP hK hD hS d_K_count_107
  · refine lv_tableOut (tgt := 106) hx hb d_K_count_1 (Or.inr (by have := Int32.le_iff_toInt_le.mp hbig; rw [nI_toInt (by decide)] at this; omega)) (by decide) ?_
    refine lv_iconst (v := -1) hx hb d_K_count_106 (by decide) ?_
    exact rk_iret (()) hx hb hr hlocks ((rk_coF_out (Or.inr hbig)).symm) rfl hP hK hD hS d_K_count_107
  · have hj8 : j = 0 ∨ j = 1 ∨ j = 2 ∨ j = 3 ∨ j = 4 ∨ j = 5 ∨ j = 6 ∨ j = 7 := by omega
    rcases hj8 with rfl | rfl | rfl | rfl | rfl | rfl | rfl | rfl
    · refine lv_tableIn (off := 47) (tgt := 48) hx hb d_K_count_1 (by decide) (by decide) rfl (by decide) ?_
      refine lv_aload_n hx hb d_K_count_48 rfl (lv_at hl 0 rfl) ?_
      refine va_get (D := (dC, dI)) (ci := 1) (v := .ref o1) (C := R_K) (T := F_K) (N := 9) hx hb htw u_K hown hK hP 0 rfl rfl 4 (by decide) (htw _ l_K_26) (fun _ h9 => h9) rfl d_K_count_49 ?_
      refine rk_backi (wc := [(o1, .inr (0, [.ref q1])), (q1, .inl (cI, 32, .inl r1))]) (wr := [(h0, .inr (1, [.ref qt, .ref qe, .ref qs, .int (nI g), .ref o1, .ref o2, .ref o3, .ref o4, .ref o5])), (qt, .inl (cI, 1024, .inl t)), (o2, .inr (0, [.ref q2])), (q2, .inl (cI, 32, .inl r2)), (o4, .inr (0, [.ref q4])), (q4, .inl (cI, 32, .inl r4)), (o5, .inr (0, [.ref q5])), (q5, .inl (cI, 32, .inl r5))]) (va_runV (As := []) (rest := []) ⟨hx, hb, hml, hown, htw⟩ (c_P_size l dC dI cI cZ cJ _ o1 q1 r1) (rk_cwV 0 htw gc_K_count_52 (by decide +kernel) ⟨(Nat.le_of_ble_eq_true rfl), (Nat.le_of_ble_eq_true rfl)⟩) (⟨rk_blind, va_recv hK hP (ci := 0) rfl (q0 := 2) rfl, rk_give (rk_psub (isC := [2, 3]) hP rfl) hK (hD.sub [2, 3] rfl rfl)⟩) rfl rfl hl.1 rfl (lv_room (Nat.le_of_ble_eq_true rfl)) d_K_count_52 ⟨(Nat.le_of_ble_eq_true rfl), (Nat.le_of_ble_eq_true rfl)⟩) hP hD hS hA [2, 3] [0, 1, 4, 5, 6, 7, 8, 9] rfl rfl rfl (by decide) (fun x5 u5 H locs hp5 hP hD hS => ?_)
      subst hp5
      have hP : va_P (dC, dI) classes [(h0, .inr (1, [.ref qt, .ref qe, .ref qs, .int (nI g), .ref o1, .ref o2, .ref o3, .ref o4, .ref o5])), (qt, .inl (cI, 1024, .inl t)), (o2, .inr (0, [.ref q2])), (q2, .inl (cI, 32, .inl r2)), (o4, .inr (0, [.ref q4])), (q4, .inl (cI, 32, .inl r4)), (o5, .inr (0, [.ref q5])), (q5, .inl (cI, 32, .inl r5)), (o1, .inr (0, [.ref q1])), (q1, .inl (cI, 32, .inl r1))] H := hP
      have hD : va_D _ [(h0, .inr (1, [.ref qt, .ref qe, .ref qs, .int (nI g), .ref o1, .ref o2, .ref o3, .ref o4, .ref o5])), (qt, .inl (cI, 1024, .inl t)), (o2, .inr (0, [.ref q2])), (q2, .inl (cI, 32, .inl r2)), (o4, .inr (0, [.ref q4])), (q4, .inl (cI, 32, .inl r4)), (o5, .inr (0, [.ref q5])), (q5, .inl (cI, 32, .inl r5)), (o1, .inr (0, [.ref q1])), (q1, .inl (cI, 32, .inl r1))] := hD
      have hP := hP.sub (ws' := [(h0, .inr (1, [.ref qt, .ref qe, .ref qs, .int (nI g), .ref o1, .ref o2, .ref o3, .ref o4, .ref o5])), (qt, .inl (cI, 1024, .inl t)), (o1, .inr (0, [.ref q1])), (q1, .inl (cI, 32, .inl r1)), (o2, .inr (0, [.ref q2])), (q2, .inl (cI, 32, .inl r2)), (o4, .inr (0, [.ref q4])), (q4, .inl (cI, 32, .inl r4)), (o5, .inr (0, [.ref q5])), (q5, .inl (cI, 32, .inl r5))]) [0, 1, 8, 9, 2, 3, 4, 5, 6, 7] rfl
      have hD := hD.sub (ws' := [(h0, .inr (1, [.ref qt, .ref qe, .ref qs, .int (nI g), .ref o1, .ref o2, .ref o3, .ref o4, .ref o5])), (qt, .inl (cI, 1024, .inl t)), (o1, .inr (0, [.ref q1])), (q1, .inl (cI, 32, .inl r1)), (o2, .inr (0, [.ref q2])), (q2, .inl (cI, 32, .inl r2)), (o4, .inr (0, [.ref q4])), (q4, .inl (cI, 32, .inl r4)), (o5, .inr (0, [.ref q5])), (q5, .inl (cI, 32, .inl r5))]) [0, 1, 8, 9, 2, 3, 4, 5, 6, 7] rfl rfl
      exact rk_iret (()) hx hb hr hlocks (by rw [rk_sz_eq hR1 (Nat.le_refl _)]; exact (rk_coF_in (t := t) (h := h) (k := k) (g := g) (j := 0) (by decide)).symm) rfl hP hK hD hS d_K_count_55
    · refine lv_tableIn (off := 55) (tgt := 56) hx hb d_K_count_1 (by decide) (by decide) rfl (by decide) ?_
      refine lv_aload_n hx hb d_K_count_56 rfl (lv_at hl 0 rfl) ?_
      refine rk_backi (wc := [(h0, .inr (1, [.ref qt, .ref qe, .ref qs, .int (nI g), .ref o1, .ref o2, .ref o3, .ref o4, .ref o5])), (qt, .inl (cI, 1024, .inl t))]) (wr := [(o1, .inr (0, [.ref q1])), (q1, .inl (cI, 32, .inl r1)), (o2, .inr (0, [.ref q2])), (q2, .inl (cI, 32, .inl r2)), (o4, .inr (0, [.ref q4])), (q4, .inl (cI, 32, .inl r4)), (o5, .inr (0, [.ref q5])), (q5, .inl (cI, 32, .inl r5))]) (va_runV (As := []) (rest := []) ⟨hx, hb, hml, hown, htw⟩ (c_K_sumOfCounts l dC dI cI cZ cJ _ h0 qt qe qs o1 o2 o3 o4 o5 g t) (rk_cwV 0 htw gc_K_count_57 (by decide +kernel) ⟨(Nat.le_of_ble_eq_true rfl), (Nat.le_of_ble_eq_true rfl)⟩) (⟨rk_blind, va_recv hK hP (ci := 1) rfl (q0 := 0) rfl, rk_give (rk_psub (isC := [0, 1]) hP rfl) hK (hD.sub [0, 1] rfl rfl)⟩) rfl rfl hl.1 rfl (lv_room (Nat.le_of_ble_eq_true rfl)) d_K_count_57 ⟨(Nat.le_of_ble_eq_true rfl), (Nat.le_of_ble_eq_true rfl)⟩) hP hD hS hA [0, 1] [2, 3, 4, 5, 6, 7, 8, 9] rfl rfl rfl (by decide) (fun x5 u5 H locs hp5 hP hD hS => ?_)
      subst hp5
      have hP : va_P (dC, dI) classes [(o1, .inr (0, [.ref q1])), (q1, .inl (cI, 32, .inl r1)), (o2, .inr (0, [.ref q2])), (q2, .inl (cI, 32, .inl r2)), (o4, .inr (0, [.ref q4])), (q4, .inl (cI, 32, .inl r4)), (o5, .inr (0, [.ref q5])), (q5, .inl (cI, 32, .inl r5)), (h0, .inr (1, [.ref qt, .ref qe, .ref qs, .int (nI g), .ref o1, .ref o2, .ref o3, .ref o4, .ref o5])), (qt, .inl (cI, 1024, .inl t))] H := hP
      have hD : va_D _ [(o1, .inr (0, [.ref q1])), (q1, .inl (cI, 32, .inl r1)), (o2, .inr (0, [.ref q2])), (q2, .inl (cI, 32, .inl r2)), (o4, .inr (0, [.ref q4])), (q4, .inl (cI, 32, .inl r4)), (o5, .inr (0, [.ref q5])), (q5, .inl (cI, 32, .inl r5)), (h0, .inr (1, [.ref qt, .ref qe, .ref qs, .int (nI g), .ref o1, .ref o2, .ref o3, .ref o4, .ref o5])), (qt, .inl (cI, 1024, .inl t))] := hD
      have hP := hP.sub (ws' := [(h0, .inr (1, [.ref qt, .ref qe, .ref qs, .int (nI g), .ref o1, .ref o2, .ref o3, .ref o4, .ref o5])), (qt, .inl (cI, 1024, .inl t)), (o1, .inr (0, [.ref q1])), (q1, .inl (cI, 32, .inl r1)), (o2, .inr (0, [.ref q2])), (q2, .inl (cI, 32, .inl r2)), (o4, .inr (0, [.ref q4])), (q4, .inl (cI, 32, .inl r4)), (o5, .inr (0, [.ref q5])), (q5, .inl (cI, 32, .inl r5))]) [8, 9, 0, 1, 2, 3, 4, 5, 6, 7] rfl
      have hD := hD.sub (ws' := [(h0, .inr (1, [.ref qt, .ref qe, .ref qs, .int (nI g), .ref o1, .ref o2, .ref o3, .ref o4, .ref o5])), (qt, .inl (cI, 1024, .inl t)), (o1, .inr (0, [.ref q1])), (q1, .inl (cI, 32, .inl r1)), (o2, .inr (0, [.ref q2])), (q2, .inl (cI, 32, .inl r2)), (o4, .inr (0, [.ref q4])), (q4, .inl (cI, 32, .inl r4)), (o5, .inr (0, [.ref q5])), (q5, .inl (cI, 32, .inl r5))]) [8, 9, 0, 1, 2, 3, 4, 5, 6, 7] rfl rfl
      exact rk_iret (()) hx hb hr hlocks ((rk_coF_in (t := t) (h := h) (k := k) (g := g) (j := 1) (by decide)).symm) rfl hP hK hD hS d_K_count_60
    · refine lv_tableIn (off := 60) (tgt := 61) hx hb d_K_count_1 (by decide) (by decide) rfl (by decide) ?_
      refine lv_aload_n hx hb d_K_count_61 rfl (lv_at hl 0 rfl) ?_
      refine va_get (D := (dC, dI)) (ci := 1) (v := .ref o2) (C := R_K) (T := F_K) (N := 9) hx hb htw u_K hown hK hP 0 rfl rfl 5 (by decide) (htw _ l_K_30) (fun _ h9 => h9) rfl d_K_count_62 ?_
      refine rk_backi (wc := [(o2, .inr (0, [.ref q2])), (q2, .inl (cI, 32, .inl r2))]) (wr := [(h0, .inr (1, [.ref qt, .ref qe, .ref qs, .int (nI g), .ref o1, .ref o2, .ref o3, .ref o4, .ref o5])), (qt, .inl (cI, 1024, .inl t)), (o1, .inr (0, [.ref q1])), (q1, .inl (cI, 32, .inl r1)), (o4, .inr (0, [.ref q4])), (q4, .inl (cI, 32, .inl r4)), (o5, .inr (0, [.ref q5])), (q5, .inl (cI, 32, .inl r5))]) (va_runV (As := []) (rest := []) ⟨hx, hb, hml, hown, htw⟩ (c_P_size l dC dI cI cZ cJ _ o2 q2 r2) (rk_cwV 0 htw gc_K_count_65 (by decide +kernel) ⟨(Nat.le_of_ble_eq_true rfl), (Nat.le_of_ble_eq_true rfl)⟩) (⟨rk_blind, va_recv hK hP (ci := 0) rfl (q0 := 4) rfl, rk_give (rk_psub (isC := [4, 5]) hP rfl) hK (hD.sub [4, 5] rfl rfl)⟩) rfl rfl hl.1 rfl (lv_room (Nat.le_of_ble_eq_true rfl)) d_K_count_65 ⟨(Nat.le_of_ble_eq_true rfl), (Nat.le_of_ble_eq_true rfl)⟩) hP hD hS hA [4, 5] [0, 1, 2, 3, 6, 7, 8, 9] rfl rfl rfl (by decide) (fun x5 u5 H locs hp5 hP hD hS => ?_)
      subst hp5
      have hP : va_P (dC, dI) classes [(h0, .inr (1, [.ref qt, .ref qe, .ref qs, .int (nI g), .ref o1, .ref o2, .ref o3, .ref o4, .ref o5])), (qt, .inl (cI, 1024, .inl t)), (o1, .inr (0, [.ref q1])), (q1, .inl (cI, 32, .inl r1)), (o4, .inr (0, [.ref q4])), (q4, .inl (cI, 32, .inl r4)), (o5, .inr (0, [.ref q5])), (q5, .inl (cI, 32, .inl r5)), (o2, .inr (0, [.ref q2])), (q2, .inl (cI, 32, .inl r2))] H := hP
      have hD : va_D _ [(h0, .inr (1, [.ref qt, .ref qe, .ref qs, .int (nI g), .ref o1, .ref o2, .ref o3, .ref o4, .ref o5])), (qt, .inl (cI, 1024, .inl t)), (o1, .inr (0, [.ref q1])), (q1, .inl (cI, 32, .inl r1)), (o4, .inr (0, [.ref q4])), (q4, .inl (cI, 32, .inl r4)), (o5, .inr (0, [.ref q5])), (q5, .inl (cI, 32, .inl r5)), (o2, .inr (0, [.ref q2])), (q2, .inl (cI, 32, .inl r2))] := hD
      have hP := hP.sub (ws' := [(h0, .inr (1, [.ref qt, .ref qe, .ref qs, .int (nI g), .ref o1, .ref o2, .ref o3, .ref o4, .ref o5])), (qt, .inl (cI, 1024, .inl t)), (o1, .inr (0, [.ref q1])), (q1, .inl (cI, 32, .inl r1)), (o2, .inr (0, [.ref q2])), (q2, .inl (cI, 32, .inl r2)), (o4, .inr (0, [.ref q4])), (q4, .inl (cI, 32, .inl r4)), (o5, .inr (0, [.ref q5])), (q5, .inl (cI, 32, .inl r5))]) [0, 1, 2, 3, 8, 9, 4, 5, 6, 7] rfl
      have hD := hD.sub (ws' := [(h0, .inr (1, [.ref qt, .ref qe, .ref qs, .int (nI g), .ref o1, .ref o2, .ref o3, .ref o4, .ref o5])), (qt, .inl (cI, 1024, .inl t)), (o1, .inr (0, [.ref q1])), (q1, .inl (cI, 32, .inl r1)), (o2, .inr (0, [.ref q2])), (q2, .inl (cI, 32, .inl r2)), (o4, .inr (0, [.ref q4])), (q4, .inl (cI, 32, .inl r4)), (o5, .inr (0, [.ref q5])), (q5, .inl (cI, 32, .inl r5))]) [0, 1, 2, 3, 8, 9, 4, 5, 6, 7] rfl rfl
      exact rk_iret (()) hx hb hr hlocks (by rw [rk_sz_eq hR2 (Nat.le_refl _)]; exact (rk_coF_in (t := t) (h := h) (k := k) (g := g) (j := 2) (by decide)).symm) rfl hP hK hD hS d_K_count_68
    · refine lv_tableIn (off := 68) (tgt := 69) hx hb d_K_count_1 (by decide) (by decide) rfl (by decide) ?_
      refine lv_aload_n hx hb d_K_count_69 rfl (lv_at hl 0 rfl) ?_
      refine va_get (D := (dC, dI)) (ci := 1) (v := .int (nI g)) (C := R_K) (T := F_K) (N := 9) hx hb htw u_K hown hK hP 0 rfl rfl 3 (by decide) (htw _ l_K_19) (fun _ h9 => h9) rfl d_K_count_70 ?_
      exact rk_iret (()) hx hb hr hlocks ((rk_coF_in (t := t) (h := h) (k := k) (g := g) (j := 3) (by decide)).symm) rfl hP hK hD hS d_K_count_73
    · refine lv_tableIn (off := 73) (tgt := 74) hx hb d_K_count_1 (by decide) (by decide) rfl (by decide) ?_
      refine lv_aload_n hx hb d_K_count_74 rfl (lv_at hl 0 rfl) ?_
      refine va_get (D := (dC, dI)) (ci := 1) (v := .ref o4) (C := R_K) (T := F_K) (N := 9) hx hb htw u_K hown hK hP 0 rfl rfl 7 (by decide) (htw _ l_K_36) (fun _ h9 => h9) rfl d_K_count_75 ?_
      refine rk_backi (wc := [(o4, .inr (0, [.ref q4])), (q4, .inl (cI, 32, .inl r4))]) (wr := [(h0, .inr (1, [.ref qt, .ref qe, .ref qs, .int (nI g), .ref o1, .ref o2, .ref o3, .ref o4, .ref o5])), (qt, .inl (cI, 1024, .inl t)), (o1, .inr (0, [.ref q1])), (q1, .inl (cI, 32, .inl r1)), (o2, .inr (0, [.ref q2])), (q2, .inl (cI, 32, .inl r2)), (o5, .inr (0, [.ref q5])), (q5, .inl (cI, 32, .inl r5))]) (va_runV (As := []) (rest := []) ⟨hx, hb, hml, hown, htw⟩ (c_P_size l dC dI cI cZ cJ _ o4 q4 r4) (rk_cwV 0 htw gc_K_count_78 (by decide +kernel) ⟨(Nat.le_of_ble_eq_true rfl), (Nat.le_of_ble_eq_true rfl)⟩) (⟨rk_blind, va_recv hK hP (ci := 0) rfl (q0 := 6) rfl, rk_give (rk_psub (isC := [6, 7]) hP rfl) hK (hD.sub [6, 7] rfl rfl)⟩) rfl rfl hl.1 rfl (lv_room (Nat.le_of_ble_eq_true rfl)) d_K_count_78 ⟨(Nat.le_of_ble_eq_true rfl), (Nat.le_of_ble_eq_true rfl)⟩) hP hD hS hA [6, 7] [0, 1, 2, 3, 4, 5, 8, 9] rfl rfl rfl (by decide) (fun x5 u5 H locs hp5 hP hD hS => ?_)
      subst hp5
      have hP : va_P (dC, dI) classes [(h0, .inr (1, [.ref qt, .ref qe, .ref qs, .int (nI g), .ref o1, .ref o2, .ref o3, .ref o4, .ref o5])), (qt, .inl (cI, 1024, .inl t)), (o1, .inr (0, [.ref q1])), (q1, .inl (cI, 32, .inl r1)), (o2, .inr (0, [.ref q2])), (q2, .inl (cI, 32, .inl r2)), (o5, .inr (0, [.ref q5])), (q5, .inl (cI, 32, .inl r5)), (o4, .inr (0, [.ref q4])), (q4, .inl (cI, 32, .inl r4))] H := hP
      have hD : va_D _ [(h0, .inr (1, [.ref qt, .ref qe, .ref qs, .int (nI g), .ref o1, .ref o2, .ref o3, .ref o4, .ref o5])), (qt, .inl (cI, 1024, .inl t)), (o1, .inr (0, [.ref q1])), (q1, .inl (cI, 32, .inl r1)), (o2, .inr (0, [.ref q2])), (q2, .inl (cI, 32, .inl r2)), (o5, .inr (0, [.ref q5])), (q5, .inl (cI, 32, .inl r5)), (o4, .inr (0, [.ref q4])), (q4, .inl (cI, 32, .inl r4))] := hD
      have hP := hP.sub (ws' := [(h0, .inr (1, [.ref qt, .ref qe, .ref qs, .int (nI g), .ref o1, .ref o2, .ref o3, .ref o4, .ref o5])), (qt, .inl (cI, 1024, .inl t)), (o1, .inr (0, [.ref q1])), (q1, .inl (cI, 32, .inl r1)), (o2, .inr (0, [.ref q2])), (q2, .inl (cI, 32, .inl r2)), (o4, .inr (0, [.ref q4])), (q4, .inl (cI, 32, .inl r4)), (o5, .inr (0, [.ref q5])), (q5, .inl (cI, 32, .inl r5))]) [0, 1, 2, 3, 4, 5, 8, 9, 6, 7] rfl
      have hD := hD.sub (ws' := [(h0, .inr (1, [.ref qt, .ref qe, .ref qs, .int (nI g), .ref o1, .ref o2, .ref o3, .ref o4, .ref o5])), (qt, .inl (cI, 1024, .inl t)), (o1, .inr (0, [.ref q1])), (q1, .inl (cI, 32, .inl r1)), (o2, .inr (0, [.ref q2])), (q2, .inl (cI, 32, .inl r2)), (o4, .inr (0, [.ref q4])), (q4, .inl (cI, 32, .inl r4)), (o5, .inr (0, [.ref q5])), (q5, .inl (cI, 32, .inl r5))]) [0, 1, 2, 3, 4, 5, 8, 9, 6, 7] rfl rfl
      exact rk_iret (()) hx hb hr hlocks (by rw [rk_sz_eq hR4 (Nat.le_refl _)]; exact (rk_coF_in (t := t) (h := h) (k := k) (g := g) (j := 4) (by decide)).symm) rfl hP hK hD hS d_K_count_81
    · refine lv_tableIn (off := 81) (tgt := 82) hx hb d_K_count_1 (by decide) (by decide) rfl (by decide) ?_
      refine lv_aload_n hx hb d_K_count_82 rfl (lv_at hl 0 rfl) ?_
      refine va_get (D := (dC, dI)) (ci := 1) (v := .ref o5) (C := R_K) (T := F_K) (N := 9) hx hb htw u_K hown hK hP 0 rfl rfl 8 (by decide) (htw _ l_K_39) (fun _ h9 => h9) rfl d_K_count_83 ?_
      refine rk_backi (wc := [(o5, .inr (0, [.ref q5])), (q5, .inl (cI, 32, .inl r5))]) (wr := [(h0, .inr (1, [.ref qt, .ref qe, .ref qs, .int (nI g), .ref o1, .ref o2, .ref o3, .ref o4, .ref o5])), (qt, .inl (cI, 1024, .inl t)), (o1, .inr (0, [.ref q1])), (q1, .inl (cI, 32, .inl r1)), (o2, .inr (0, [.ref q2])), (q2, .inl (cI, 32, .inl r2)), (o4, .inr (0, [.ref q4])), (q4, .inl (cI, 32, .inl r4))]) (va_runV (As := []) (rest := []) ⟨hx, hb, hml, hown, htw⟩ (c_P_size l dC dI cI cZ cJ _ o5 q5 r5) (rk_cwV 0 htw gc_K_count_86 (by decide +kernel) ⟨(Nat.le_of_ble_eq_true rfl), (Nat.le_of_ble_eq_true rfl)⟩) (⟨rk_blind, va_recv hK hP (ci := 0) rfl (q0 := 8) rfl, rk_give (rk_psub (isC := [8, 9]) hP rfl) hK (hD.sub [8, 9] rfl rfl)⟩) rfl rfl hl.1 rfl (lv_room (Nat.le_of_ble_eq_true rfl)) d_K_count_86 ⟨(Nat.le_of_ble_eq_true rfl), (Nat.le_of_ble_eq_true rfl)⟩) hP hD hS hA [8, 9] [0, 1, 2, 3, 4, 5, 6, 7] rfl rfl rfl (by decide) (fun x5 u5 H locs hp5 hP hD hS => ?_)
      subst hp5
      have hP : va_P (dC, dI) classes [(h0, .inr (1, [.ref qt, .ref qe, .ref qs, .int (nI g), .ref o1, .ref o2, .ref o3, .ref o4, .ref o5])), (qt, .inl (cI, 1024, .inl t)), (o1, .inr (0, [.ref q1])), (q1, .inl (cI, 32, .inl r1)), (o2, .inr (0, [.ref q2])), (q2, .inl (cI, 32, .inl r2)), (o4, .inr (0, [.ref q4])), (q4, .inl (cI, 32, .inl r4)), (o5, .inr (0, [.ref q5])), (q5, .inl (cI, 32, .inl r5))] H := hP
      have hD : va_D _ [(h0, .inr (1, [.ref qt, .ref qe, .ref qs, .int (nI g), .ref o1, .ref o2, .ref o3, .ref o4, .ref o5])), (qt, .inl (cI, 1024, .inl t)), (o1, .inr (0, [.ref q1])), (q1, .inl (cI, 32, .inl r1)), (o2, .inr (0, [.ref q2])), (q2, .inl (cI, 32, .inl r2)), (o4, .inr (0, [.ref q4])), (q4, .inl (cI, 32, .inl r4)), (o5, .inr (0, [.ref q5])), (q5, .inl (cI, 32, .inl r5))] := hD
      exact rk_iret (()) hx hb hr hlocks (by rw [rk_sz_eq hR5 (Nat.le_refl _)]; exact (rk_coF_in (t := t) (h := h) (k := k) (g := g) (j := 5) (by decide)).symm) rfl hP hK hD hS d_K_count_89
    · refine lv_tableIn (off := 89) (tgt := 90) hx hb d_K_count_1 (by decide) (by decide) rfl (by decide) ?_
      refine lv_aload_n hx hb d_K_count_90 rfl (lv_at hl 0 rfl) ?_
      refine va_get (D := (dC, dI)) (ci := 1) (v := .ref o2) (C := R_K) (T := F_K) (N := 9) hx hb htw u_K hown hK hP 0 rfl rfl 5 (by decide) (htw _ l_K_30) (fun _ h9 => h9) rfl d_K_count_91 ?_
      refine rk_backi (wc := [(o2, .inr (0, [.ref q2])), (q2, .inl (cI, 32, .inl r2))]) (wr := [(h0, .inr (1, [.ref qt, .ref qe, .ref qs, .int (nI g), .ref o1, .ref o2, .ref o3, .ref o4, .ref o5])), (qt, .inl (cI, 1024, .inl t)), (o1, .inr (0, [.ref q1])), (q1, .inl (cI, 32, .inl r1)), (o4, .inr (0, [.ref q4])), (q4, .inl (cI, 32, .inl r4)), (o5, .inr (0, [.ref q5])), (q5, .inl (cI, 32, .inl r5))]) (va_runV (As := []) (rest := []) ⟨hx, hb, hml, hown, htw⟩ (c_P_loops l dC dI cI cZ cJ _ o2 q2 r2) (rk_cwV 0 htw gc_K_count_94 (by decide +kernel) ⟨(Nat.le_of_ble_eq_true rfl), (Nat.le_of_ble_eq_true rfl)⟩) (⟨rk_blind, va_recv hK hP (ci := 0) rfl (q0 := 4) rfl, rk_give (rk_psub (isC := [4, 5]) hP rfl) hK (hD.sub [4, 5] rfl rfl)⟩) rfl rfl hl.1 rfl (lv_room (Nat.le_of_ble_eq_true rfl)) d_K_count_94 ⟨(Nat.le_of_ble_eq_true rfl), (Nat.le_of_ble_eq_true rfl)⟩) hP hD hS hA [4, 5] [0, 1, 2, 3, 6, 7, 8, 9] rfl rfl rfl (by decide) (fun x5 u5 H locs hp5 hP hD hS => ?_)
      subst hp5
      have hP : va_P (dC, dI) classes [(h0, .inr (1, [.ref qt, .ref qe, .ref qs, .int (nI g), .ref o1, .ref o2, .ref o3, .ref o4, .ref o5])), (qt, .inl (cI, 1024, .inl t)), (o1, .inr (0, [.ref q1])), (q1, .inl (cI, 32, .inl r1)), (o4, .inr (0, [.ref q4])), (q4, .inl (cI, 32, .inl r4)), (o5, .inr (0, [.ref q5])), (q5, .inl (cI, 32, .inl r5)), (o2, .inr (0, [.ref q2])), (q2, .inl (cI, 32, .inl r2))] H := hP
      have hD : va_D _ [(h0, .inr (1, [.ref qt, .ref qe, .ref qs, .int (nI g), .ref o1, .ref o2, .ref o3, .ref o4, .ref o5])), (qt, .inl (cI, 1024, .inl t)), (o1, .inr (0, [.ref q1])), (q1, .inl (cI, 32, .inl r1)), (o4, .inr (0, [.ref q4])), (q4, .inl (cI, 32, .inl r4)), (o5, .inr (0, [.ref q5])), (q5, .inl (cI, 32, .inl r5)), (o2, .inr (0, [.ref q2])), (q2, .inl (cI, 32, .inl r2))] := hD
      have hP := hP.sub (ws' := [(h0, .inr (1, [.ref qt, .ref qe, .ref qs, .int (nI g), .ref o1, .ref o2, .ref o3, .ref o4, .ref o5])), (qt, .inl (cI, 1024, .inl t)), (o1, .inr (0, [.ref q1])), (q1, .inl (cI, 32, .inl r1)), (o2, .inr (0, [.ref q2])), (q2, .inl (cI, 32, .inl r2)), (o4, .inr (0, [.ref q4])), (q4, .inl (cI, 32, .inl r4)), (o5, .inr (0, [.ref q5])), (q5, .inl (cI, 32, .inl r5))]) [0, 1, 2, 3, 8, 9, 4, 5, 6, 7] rfl
      have hD := hD.sub (ws' := [(h0, .inr (1, [.ref qt, .ref qe, .ref qs, .int (nI g), .ref o1, .ref o2, .ref o3, .ref o4, .ref o5])), (qt, .inl (cI, 1024, .inl t)), (o1, .inr (0, [.ref q1])), (q1, .inl (cI, 32, .inl r1)), (o2, .inr (0, [.ref q2])), (q2, .inl (cI, 32, .inl r2)), (o4, .inr (0, [.ref q4])), (q4, .inl (cI, 32, .inl r4)), (o5, .inr (0, [.ref q5])), (q5, .inl (cI, 32, .inl r5))]) [0, 1, 2, 3, 8, 9, 4, 5, 6, 7] rfl rfl
      exact rk_iret (()) hx hb hr hlocks (rk_lo_eq hR2) rfl hP hK hD hS d_K_count_97
    · refine lv_tableIn (off := 97) (tgt := 98) hx hb d_K_count_1 (by decide) (by decide) rfl (by decide) ?_
      refine lv_aload_n hx hb d_K_count_98 rfl (lv_at hl 0 rfl) ?_
      refine va_get (D := (dC, dI)) (ci := 1) (v := .ref o2) (C := R_K) (T := F_K) (N := 9) hx hb htw u_K hown hK hP 0 rfl rfl 5 (by decide) (htw _ l_K_30) (fun _ h9 => h9) rfl d_K_count_99 ?_
      refine rk_backi (wc := [(o2, .inr (0, [.ref q2])), (q2, .inl (cI, 32, .inl r2))]) (wr := [(h0, .inr (1, [.ref qt, .ref qe, .ref qs, .int (nI g), .ref o1, .ref o2, .ref o3, .ref o4, .ref o5])), (qt, .inl (cI, 1024, .inl t)), (o1, .inr (0, [.ref q1])), (q1, .inl (cI, 32, .inl r1)), (o4, .inr (0, [.ref q4])), (q4, .inl (cI, 32, .inl r4)), (o5, .inr (0, [.ref q5])), (q5, .inl (cI, 32, .inl r5))]) (va_runV (As := []) (rest := []) ⟨hx, hb, hml, hown, htw⟩ (c_P_circles l dC dI cI cZ cJ _ o2 q2 r2) (rk_cwV 0 htw gc_K_count_102 (by decide +kernel) ⟨(Nat.le_of_ble_eq_true rfl), (Nat.le_of_ble_eq_true rfl)⟩) (⟨rk_blind, va_recv hK hP (ci := 0) rfl (q0 := 4) rfl, rk_give (rk_psub (isC := [4, 5]) hP rfl) hK (hD.sub [4, 5] rfl rfl)⟩) rfl rfl hl.1 rfl (lv_room (Nat.le_of_ble_eq_true rfl)) d_K_count_102 ⟨(Nat.le_of_ble_eq_true rfl), (Nat.le_of_ble_eq_true rfl)⟩) hP hD hS hA [4, 5] [0, 1, 2, 3, 6, 7, 8, 9] rfl rfl rfl (by decide) (fun x5 u5 H locs hp5 hP hD hS => ?_)
      subst hp5
      have hP : va_P (dC, dI) classes [(h0, .inr (1, [.ref qt, .ref qe, .ref qs, .int (nI g), .ref o1, .ref o2, .ref o3, .ref o4, .ref o5])), (qt, .inl (cI, 1024, .inl t)), (o1, .inr (0, [.ref q1])), (q1, .inl (cI, 32, .inl r1)), (o4, .inr (0, [.ref q4])), (q4, .inl (cI, 32, .inl r4)), (o5, .inr (0, [.ref q5])), (q5, .inl (cI, 32, .inl r5)), (o2, .inr (0, [.ref q2])), (q2, .inl (cI, 32, .inl r2))] H := hP
      have hD : va_D _ [(h0, .inr (1, [.ref qt, .ref qe, .ref qs, .int (nI g), .ref o1, .ref o2, .ref o3, .ref o4, .ref o5])), (qt, .inl (cI, 1024, .inl t)), (o1, .inr (0, [.ref q1])), (q1, .inl (cI, 32, .inl r1)), (o4, .inr (0, [.ref q4])), (q4, .inl (cI, 32, .inl r4)), (o5, .inr (0, [.ref q5])), (q5, .inl (cI, 32, .inl r5)), (o2, .inr (0, [.ref q2])), (q2, .inl (cI, 32, .inl r2))] := hD
      have hP := hP.sub (ws' := [(h0, .inr (1, [.ref qt, .ref qe, .ref qs, .int (nI g), .ref o1, .ref o2, .ref o3, .ref o4, .ref o5])), (qt, .inl (cI, 1024, .inl t)), (o1, .inr (0, [.ref q1])), (q1, .inl (cI, 32, .inl r1)), (o2, .inr (0, [.ref q2])), (q2, .inl (cI, 32, .inl r2)), (o4, .inr (0, [.ref q4])), (q4, .inl (cI, 32, .inl r4)), (o5, .inr (0, [.ref q5])), (q5, .inl (cI, 32, .inl r5))]) [0, 1, 2, 3, 8, 9, 4, 5, 6, 7] rfl
      have hD := hD.sub (ws' := [(h0, .inr (1, [.ref qt, .ref qe, .ref qs, .int (nI g), .ref o1, .ref o2, .ref o3, .ref o4, .ref o5])), (qt, .inl (cI, 1024, .inl t)), (o1, .inr (0, [.ref q1])), (q1, .inl (cI, 32, .inl r1)), (o2, .inr (0, [.ref q2])), (q2, .inl (cI, 32, .inl r2)), (o4, .inr (0, [.ref q4])), (q4, .inl (cI, 32, .inl r4)), (o5, .inr (0, [.ref q5])), (q5, .inl (cI, 32, .inl r5))]) [0, 1, 2, 3, 8, 9, 4, 5, 6, 7] rfl rfl
      exact rk_iret (()) hx hb hr hlocks (rk_ci_eq hR2) rfl hP hK hD hS d_K_count_105
end
section
/-! ===== BEGIN words of one list among another's, by their places ===== -/
theorem goodIn_r {big : List Cond} (ws : List Cond) (ps : List Nat) (hp : ws = ps.filterMap (fun i => big[i]?)) (h : ws.all goodWord = true) : GoodIn big ws := by
  intro w hw
  have h1 := List.all_eq_true.mp h w hw
  rw [hp] at hw
  obtain ⟨i, -, hi⟩ := List.mem_filterMap.mp hw
  have hm : w ∈ big := by first | exact List.mem_of_getElem? hi | exact List.getElem?_mem hi
  exact ⟨hm, good_of_word h1⟩
theorem goodIn_app {big a b : List Cond} (ha : GoodIn big a) (hb : GoodIn big b) : GoodIn big (a ++ b) := fun w h => (List.mem_append.mp h).elim (ha w) (hb w)
theorem goodIn_ca {big a b : List Cond} {c : Cond} (ha : GoodIn big (c :: a)) (hb : GoodIn big b) : GoodIn big (c :: (a ++ b)) := fun w h => (List.mem_cons.mp h).elim (fun e => ha w (List.mem_cons.mpr (Or.inl e))) (fun h => (List.mem_append.mp h).elim (fun h => ha w (List.mem_cons.mpr (Or.inr h))) (hb w))
theorem goodIn_sub {big ws : List Cond} (hm : ∀ w ∈ ws, w ∈ big) (h : ws.all goodWord = true) : GoodIn big ws := fun w hw => ⟨hm w hw, good_of_word (List.all_eq_true.mp h w hw)⟩
/-! ===== END ===== -/

/-! ===== BEGIN exceptions that leave a method, and their catching by the caller (launches without stack traces) ===== -/
section VXA
/-! The laws vx_back, vx_callV, vx_callS, vx_callSW, vx_throw0, vx_throwS follow proofs of the library, with one case more: JvmDerived/Free/Laws.lean (Back.of_free), Shelf42/LK1.lean (callV, callS), Shelf/KitTraced.lean (throwNew0V, throwNewS). -/
/-- where a method has thrown q: the class by its name, the cell, what was written, the world -/
def vx_T (XC : String → State → State → Prop) (st : State) (q : Addr) (t : State) (mc ms : Nat) (free : Addr → Prop) : Prop :=
  ∃ (E : String) (ce : Cell) (L : List Loc), XC E st t ∧ t.heap[q]? = some ce ∧ ce.vm = .none ∧ st.vm.findClass E = some ce.cls ∧ st.WarmedH t.vm ∧ st.sameButNew ({ t with vm := st.vm } : State) L mc ms ∧ ∀ z ∈ L, free z.base
def vx_Q (Qc : Array Value → State → Outcome → State → Prop) (XC : String → State → State → Prop) (mc ms : Nat) (free : Addr → Prop) : Array Value → State → Outcome → State → Prop := fun a st o t =>
  (Qc a st o t ∧ ∃ L, FrameEnd st o t L mc ms ∧ ∀ q ∈ L, free q.base) ∨ ∃ q, o = .threw q ∧ vx_T XC st q t mc ms free
/-- a callee that returns or throws -/
def vx_Met (l : Launch) (y : MethodName) (ws : List Cond) (rm : Room) (Pc : Array Value → State → Prop) (Qc : Array Value → State → Outcome → State → Prop) (XC : String → State → State → Prop) (mc ms : Nat) (free : Addr → Prop) : Prop :=
  MetFree l y (headSpec ws rm) Pc (fun _ _ _ _ _ => True) (vx_Q Qc XC mc ms free)
def vx_Post (XC : String → State → State → Prop) (mc ms : Nat) (free : Addr → Prop) : Pt → Array Value → Addr → Pt → Prop := fun A a q B =>
  ∃ (g : JFrame) (mk : MethodId) (t : State) (L : List Loc) (E : String) (ce : Cell), B.U.heap = t.heap ∧ B.U.vm = t.vm ∧ XC E (A.U.calling g mk a) t ∧ t.heap[q]? = some ce ∧ ce.vm = .none ∧ A.U.vm.findClass E = some ce.cls ∧ B.locs = A.locs ++ L ∧ (∀ z ∈ L, free z.base) ∧ B.cells = A.cells + mc ∧ B.slots = A.slots + ms
def vx_Back (l : Launch) (R : Room) (p : Program) (e : Env) (below : List Frame) (s : State) (sargs : Array Value) (y : MethodName) (len W9 : Nat)
    (Pre : Pt → Array Value → Prop) (Post : Pt → Array Value → Option Value → Pt → Prop) (PostX : Pt → Array Value → Addr → Pt → Prop) : Prop :=
  ∀ (m : MethodId) (meth : Method) (c : Code) (A : Pt) (g : JFrame) (ig : Instr) (mk : MethodId) (a : Array Value),
    Stand p l e R s m sargs below meth c A.U A.locs A.cells A.slots → g.method = m → g.locals.size = c.maxLocals → decode c.code g.pc = .ok (ig, len) →
    2 * g.monitorRoom + (g.stack.map fun v => v.category).sum ≤ W9 → A.U.methodNamed? y = some mk → Pre A a →
    (∃ (v : Option Value) (B : Pt), Stand p l e R s m sargs below meth c B.U B.locs B.cells B.slots ∧ Post A a v B ∧
      Steps p.tables e below (doInvoke e (A.U.setTop g) [] mk a).1 (B.U.setTop { g with pc := g.pc + len, stack := v.toList ++ g.stack })) ∨
    (∃ (q : Addr) (B : Pt), Stand p l e R s m sargs below meth c B.U B.locs B.cells B.slots ∧ PostX A a q B ∧
      Steps p.tables e below (doInvoke e (A.U.setTop g) [] mk a).1 ((B.U.setTop g).pushFrame (.throwing q)))
section Payer
variable {l : Launch} {R : Room} {p : Program} {e : Env} {below : List Frame} {s : State} {sargs : Array Value} {y : MethodName} {len W9 : Nat}
theorem vx_back {ws : List Cond} {rm : Room} {Pc : Array Value → State → Prop} {Qc : Array Value → State → Outcome → State → Prop} {XC : String → State → State → Prop} {mc ms : Nat} {free : Addr → Prop} {bytes : ByteArray} {maxL : Nat} {ret : Option FieldType}
    (hM : vx_Met l y ws rm Pc Qc XC mc ms free) (hblind : FrameBlind Pc) (hrc : rm.cells = mc) (hrs : rm.slots = ms)
    (hframes : rm.frames + 1 ≤ R.frames) (hlocals : W9 + (maxL + 11) + rm.locals ≤ R.locals)
    (hws : ∀ w ∈ ws, ∀ a' U, s.WarmedH U.vm → w.before a' U = true) (hcode : Cond.code y bytes maxL ret ∈ ws) (hinit : ∀ a' U, s.WarmedH U.vm → (Cond.initialized y.cls).before a' U = true) :
    vx_Back l R p e below s sargs y len W9 (PreOf R mc ms Pc) (PostOf Qc mc ms free) (vx_Post XC mc ms free) := by
  intro m meth c A g ig mk a X hg hsize hdg hW hn hp
  have h1 : (headSpec ws rm).pre.before a A.U = true := atoms_intro fun w hw => hws w hw _ _ X.warmed
  have h2 : (Cond.code y bytes maxL ret).before a A.U = true := hws _ hcode _ _ X.warmed
  have h3 : (Cond.initialized y.cls).before a A.U = true := hinit _ _ X.warmed
  have h4 : A.cells + (headSpec ws rm).room.cells ≤ R.cells := by rw [show (headSpec ws rm).room.cells = mc from hrc]; exact hp.1
  have h5 : A.slots + (headSpec ws rm).room.slots ≤ R.slots := by rw [show (headSpec ws rm).room.slots = ms from hrs]; exact hp.2.1
  have hPc : Pc a (A.U.calling g mk a) := hblind _ _ _ _ hp.2.2
  obtain ⟨U, Ls, c0, s0⟩ := A
  dsimp only [Pt.U, Pt.locs, Pt.cells, Pt.slots] at h1 h2 h3 h4 h5 X hn hPc ⊢
  obtain ⟨methY, cY, hmY, hcY, -, hlY, -, -, -, -⟩ := Cond.code_spec hn h2
  obtain ⟨kY, hkY, -⟩ := className_of_methodNamed hn
  have hinitY : kY.init = .initialized := Cond.initialized_spec (findClass_of_methodNamed hn) hkY h3
  have h : At U g.method c below := by rw [hg]; exact X.here
  have hlocals9 : W9 + (maxL + 11) + (headSpec ws rm).room.locals ≤ R.locals := hlocals
  have happ : (headSpec ws rm).appliesLoose y e.platform (U.calling g mk a) = true :=
    Spec.appliesLoose_calling (g := g) h hdg hn hkY hinitY
      (X.room_calling (g := g) (R' := (headSpec ws rm).room) hsize hmY hcY hframes (by rw [hlY]; omega) h4 h5) h1
  obtain ⟨mid, hmid⟩ := h.above
  have hfr : (U.setTop g).frames = (.java g :: mid) ++ below := by rw [State.frames_setTop' g h.top, hmid]; rfl
  obtain ⟨o, s₂, hsteps, -, hend, hq⟩ := Steps.callFree hM p X.admits X.cas X.clock (acts := []) hfr happ hPc trivial
  have hq' : vx_Q Qc XC mc ms free a (U.calling g mk a) o s₂ := hq
  rw [State.frames_setTop' g h.top] at hend
  obtain ⟨g₀, hg0⟩ := Option.isSome_iff_exists.mp h.top
  obtain ⟨r, hr⟩ := State.topJava?_eq_some.mp hg0
  have hr' : (({ U with heap := s₂.heap, slotsUsed := s₂.slotsUsed } : State).setVm s₂.vm).frames = .java g₀ :: r := hr
  rcases hq' with ⟨hqc, L, hfe, hL⟩ | ⟨q, rfl, E, ce, L, hx, hce, hcv, hcl, hW₂, hsm, hL⟩
  · obtain ⟨⟨v, rfl⟩, hW₂, e2, q2, q3, q4, q5, q6⟩ := id hfe
    have e3 : s₂ = ({ (U.calling g mk a).setFrames s₂.frames with heap := s₂.heap, slotsUsed := s₂.slotsUsed } : State).setVm s₂.vm := by
      have : s₂ = ({ s₂ with vm := (U.calling g mk a).vm } : State).setVm s₂.vm := rfl
      rw [e2] at this
      exact this
    obtain ⟨c₂, i₂, len₂, hc₂, hd₂, hf₂⟩ := hend
    have hW' : U.WarmedH s₂.vm := hW₂
    have hcc : c₂ = c := by
      have h1 : s₂.code? g.method = U.code? g.method := by
        rw [State.code?_eq, State.code?_eq, hW'.alike.method?]
      exact Option.some.inj (hc₂.symm.trans (h1.trans h.code))
    subst hcc
    have hlen : len₂ = len := by rw [hdg] at hd₂; cases hd₂; rfl
    subst hlen
    have hs₂ : s₂ = (({ U with heap := s₂.heap, slotsUsed := s₂.slotsUsed } : State).setVm s₂.vm).setTop { g with pc := g.pc + len₂, stack := v.toList ++ g.stack } := by
      refine e3.trans ?_
      rw [hf₂, State.calling_eq h.top, State.setFrames_setFrames, State.setTop_of_frames _ hr', hr]
      rfl
    have hsame : U.sameButNew ({ U with heap := s₂.heap, slotsUsed := s₂.slotsUsed } : State) L mc ms := by
      refine ⟨?_, q2, q3, q4, q5, q6⟩
      obtain ⟨t, ht, -⟩ := State.frames_cons hr
      show ({ U with heap := s₂.heap, slotsUsed := s₂.slotsUsed } : State) = { U.setFrames U.frames with heap := s₂.heap, slotsUsed := s₂.slotsUsed }
      rw [State.setFrames_self ht]
    subst hg
    refine Or.inl ⟨v, ⟨(({ U with heap := s₂.heap, slotsUsed := s₂.slotsUsed } : State).setVm s₂.vm), Ls ++ L, c0 + mc, s0 + ms⟩,
      ⟨X.admits, X.cas, X.clock, X.frames, X.room, X.hears, X.method, X.code, (X.here.setHeapUsed s₂.heap s₂.slotsUsed).setVm hW'.alike, X.tail, State.WarmedH.trans X.warmed hW', X.limits, X.bytes, X.same.trans (hsame.setVm s.vm)⟩,
      ⟨g, mk, s₂, L, rfl, rfl, hqc, rfl, hL, rfl, rfl⟩, ?_⟩
    show Steps p.tables e below _ ((({ U with heap := s₂.heap, slotsUsed := s₂.slotsUsed } : State).setVm s₂.vm).setTop { g with pc := g.pc + len₂, stack := v.toList ++ g.stack })
    rw [← hs₂]
    exact hsteps
  · obtain ⟨e2, q2, q3, q4, q5, q6⟩ := id hsm
    have e3 : s₂ = ({ (U.calling g mk a).setFrames s₂.frames with heap := s₂.heap, slotsUsed := s₂.slotsUsed } : State).setVm s₂.vm := by
      have : s₂ = ({ s₂ with vm := (U.calling g mk a).vm } : State).setVm s₂.vm := rfl
      rw [e2] at this
      exact this
    have hf₂ : s₂.frames = .throwing q :: .java g :: U.frames.tail := hend
    have hW' : U.WarmedH s₂.vm := hW₂
    have hs₂ : s₂ = ((({ U with heap := s₂.heap, slotsUsed := s₂.slotsUsed } : State).setVm s₂.vm).setTop g).pushFrame (.throwing q) := by
      refine e3.trans ?_
      rw [hf₂, State.calling_eq h.top, State.setFrames_setFrames, State.pushFrame, State.frames_setTop _ hr', State.setTop_of_frames _ hr', State.setFrames_setFrames, hr]
      rfl
    have hsame : U.sameButNew ({ U with heap := s₂.heap, slotsUsed := s₂.slotsUsed } : State) L mc ms := by
      refine ⟨?_, q2, q3, q4, q5, q6⟩
      obtain ⟨t, ht, -⟩ := State.frames_cons hr
      show ({ U with heap := s₂.heap, slotsUsed := s₂.slotsUsed } : State) = { U.setFrames U.frames with heap := s₂.heap, slotsUsed := s₂.slotsUsed }
      rw [State.setFrames_self ht]
    subst hg
    refine Or.inr ⟨q, ⟨(({ U with heap := s₂.heap, slotsUsed := s₂.slotsUsed } : State).setVm s₂.vm), Ls ++ L, c0 + mc, s0 + ms⟩,
      ⟨X.admits, X.cas, X.clock, X.frames, X.room, X.hears, X.method, X.code, (X.here.setHeapUsed s₂.heap s₂.slotsUsed).setVm hW'.alike, X.tail, State.WarmedH.trans X.warmed hW', X.limits, X.bytes, X.same.trans (hsame.setVm s.vm)⟩,
      ⟨g, mk, s₂, L, E, ce, rfl, rfl, hx, hce, hcv, hcl, rfl, hL, rfl, rfl⟩, ?_⟩
    show Steps p.tables e below _ (((({ U with heap := s₂.heap, slotsUsed := s₂.slotsUsed } : State).setVm s₂.vm).setTop g).pushFrame (.throwing q))
    rw [← hs₂]
    exact hsteps
end Payer
section Calls
variable {p : Program} {l : Launch} {e : Env} {R : Room} {s : State} {m : MethodId} {args : Array Value} {below : List Frame} {meth : Method} {c : Code} {T : State} {locs : List Loc} {cells slots : Nat}
theorem vx_callV (X : Stand p l e R s m args below meth c T locs cells slots) (hexec : p.tables.exec = Jvm.exec) {own C : String} {index : Nat} {y : MethodName} {bytes : ByteArray} {maxL : Nat} {ret : Option FieldType}
    (hown : s.vm.findClass own = some m.cls) (hlink : (Cond.methodLink own index y).before args s = true) (hinst : (Cond.instanceMethod y).before args s = true) (hsel : (Cond.selects C y y).before args s = true)
    (hcode : (Cond.code y bytes maxL ret).before args s = true) (hy : y.cls ≠ "java/lang/invoke/MethodHandle" ∧ y.cls ≠ "java/lang/invoke/VarHandle")
    {W9 : Nat} {Pre : Pt → Array Value → Prop} {Post : Pt → Array Value → Option Value → Pt → Prop} {PostX : Pt → Array Value → Addr → Pt → Prop} (hK : vx_Back l R p e below s args y 3 W9 Pre Post PostX)
    {b : Addr} {cellB : Cell} (hcell : T.heap[b]? = some cellB) (hobj : cellB.vm.isStatics = false) (hcls : s.vm.findClass C = some cellB.cls)
    {g : JFrame} (hg : g.method = m) (hsize : g.locals.size = c.maxLocals) {argsL rest : List Value} (hlen : ∀ sig, parseMethodDescriptor y.desc = some sig → argsL.length = sig.parameters.length)
    (hstack : g.stack = argsL.reverse ++ .ref b :: rest) (hW : 2 * g.monitorRoom + (rest.map fun v => v.category).sum ≤ W9) (hdg : decode c.code g.pc = .ok (.invokevirtual index, 3))
    (hpre : ∀ vm₁, s.WarmedH vm₁ → Pre ⟨T.setVm vm₁, locs, cells, slots⟩ (Value.ref b :: argsL).toArray) :
    (∃ (v : Option Value) (vm₁ : Vm) (B : Pt), s.WarmedH vm₁ ∧ Stand p l e R s m args below meth c B.U B.locs B.cells B.slots ∧ Post ⟨T.setVm vm₁, locs, cells, slots⟩ (Value.ref b :: argsL).toArray v B ∧
      ∀ target, Steps p.tables e below (B.U.setTop { g with pc := g.pc + 3, stack := v.toList ++ rest }) target → Steps p.tables e below (T.setTop g) target) ∨
    (∃ (q : Addr) (vm₁ : Vm) (B : Pt), s.WarmedH vm₁ ∧ Stand p l e R s m args below meth c B.U B.locs B.cells B.slots ∧ PostX ⟨T.setVm vm₁, locs, cells, slots⟩ (Value.ref b :: argsL).toArray q B ∧
      Steps p.tables e below (T.setTop g) ((B.U.setTop { g with stack := rest }).pushFrame (.throwing q))) := by
  obtain ⟨mk, methM, hnamed, hmethM, hstM, habM⟩ := Cond.instanceMethod_spec hinst
  obtain ⟨methM', cM, hmethM', -, -, -, -, -, -, hsigM⟩ := Cond.code_spec hnamed hcode
  cases hmethM.symm.trans hmethM'
  obtain ⟨c2, r2, m2, q1, q2, q3, q4, kP, hkP, hkPi⟩ := Cond.selects_spec hsel
  cases hcls.symm.trans q1
  cases (State.methodFound?_of_named hnamed hy).symm.trans q2
  cases hnamed.symm.trans q3
  have hselP : selectMethod e.platform s.vm cellB.cls mk = .method mk := by rw [Launch.admits_selectMethod X.admits]; exact q4
  obtain ⟨vm₁, X₁, hstep₁⟩ := X.invokevirtual hexec hown hlink hnamed hmethM hstM hkP hkPi hy (a := b) (cell := cellB) hcell
    (fun z h => by rw [h] at hobj; cases hobj) hselP hmethM habM hkP hkPi (g := g) hg (argsL := argsL) (rest := rest) (hlen _ hsigM) hstack hdg
  rcases hK m meth c ⟨T.setVm vm₁, locs, cells, slots⟩ { g with stack := rest } (.invokevirtual index) mk (Value.ref b :: argsL).toArray X₁ hg hsize hdg hW (X₁.named hnamed) (hpre vm₁ X₁.warmed) with ⟨v, B, X', hpost, hsteps⟩ | ⟨q, B, X', hpost, hsteps⟩
  · exact Or.inl ⟨v, vm₁, B, X₁.warmed, X', hpost, fun target h => hstep₁ _ fun acts => by rw [doInvoke_state]; exact hsteps.trans h⟩
  · exact Or.inr ⟨q, vm₁, B, X₁.warmed, X', hpost, hstep₁ _ fun acts => by rw [doInvoke_state]; exact hsteps⟩
theorem vx_callS (X : Stand p l e R s m args below meth c T locs cells slots) (hexec : p.tables.exec = Jvm.exec) {own : String} {index : Nat} {y : MethodName} {bytes : ByteArray} {maxL : Nat} {ret : Option FieldType}
    (hown : s.vm.findClass own = some m.cls) (hlink : (Cond.methodLink own index y).before args s = true) (hstat : (Cond.static y).before args s = true) (hinit : (Cond.initialized y.cls).before args s = true)
    (hcode : (Cond.code y bytes maxL ret).before args s = true) (hy : y.cls ≠ "java/lang/invoke/MethodHandle" ∧ y.cls ≠ "java/lang/invoke/VarHandle")
    {W9 : Nat} {Pre : Pt → Array Value → Prop} {Post : Pt → Array Value → Option Value → Pt → Prop} {PostX : Pt → Array Value → Addr → Pt → Prop} (hK : vx_Back l R p e below s args y 3 W9 Pre Post PostX)
    {g : JFrame} (hg : g.method = m) (hsize : g.locals.size = c.maxLocals) {argsL rest : List Value} (hlen : ∀ sig, parseMethodDescriptor y.desc = some sig → argsL.length = sig.parameters.length)
    (hstack : g.stack = argsL.reverse ++ rest) (hW : 2 * g.monitorRoom + (rest.map fun v => v.category).sum ≤ W9) (hdg : decode c.code g.pc = .ok (.invokestatic index, 3))
    (hpre : ∀ vm₁, s.WarmedH vm₁ → Pre ⟨T.setVm vm₁, locs, cells, slots⟩ argsL.toArray) :
    (∃ (v : Option Value) (vm₁ : Vm) (B : Pt), s.WarmedH vm₁ ∧ Stand p l e R s m args below meth c B.U B.locs B.cells B.slots ∧ Post ⟨T.setVm vm₁, locs, cells, slots⟩ argsL.toArray v B ∧
      ∀ target, Steps p.tables e below (B.U.setTop { g with pc := g.pc + 3, stack := v.toList ++ rest }) target → Steps p.tables e below (T.setTop g) target) ∨
    (∃ (q : Addr) (vm₁ : Vm) (B : Pt), s.WarmedH vm₁ ∧ Stand p l e R s m args below meth c B.U B.locs B.cells B.slots ∧ PostX ⟨T.setVm vm₁, locs, cells, slots⟩ argsL.toArray q B ∧
      Steps p.tables e below (T.setTop g) ((B.U.setTop { g with stack := rest }).pushFrame (.throwing q))) := by
  obtain ⟨mk, hnamed⟩ := Cond.code_named hcode
  obtain ⟨methM, cM, hmethM, -, -, -, -, -, -, hsigM⟩ := Cond.code_spec hnamed hcode
  have hstatic : methM.isStatic = true := Cond.static_spec hnamed hmethM hstat
  obtain ⟨kP, hkP, -⟩ := className_of_methodNamed hnamed
  have hinitP : kP.init = .initialized := Cond.initialized_spec (findClass_of_methodNamed hnamed) hkP hinit
  obtain ⟨vm₁, X₁, hstep₁⟩ := X.invokestatic hexec hown hlink hnamed hmethM hstatic hkP hinitP hy (g := g) hg (argsL := argsL) (rest := rest) (hlen _ hsigM) hstack hdg
  rcases hK m meth c ⟨T.setVm vm₁, locs, cells, slots⟩ { g with stack := rest } (.invokestatic index) mk argsL.toArray X₁ hg hsize hdg hW (X₁.named hnamed) (hpre vm₁ X₁.warmed) with ⟨v, B, X', hpost, hsteps⟩ | ⟨q, B, X', hpost, hsteps⟩
  · exact Or.inl ⟨v, vm₁, B, X₁.warmed, X', hpost, fun target h => hstep₁ _ fun acts => by rw [doInvoke_state]; exact hsteps.trans h⟩
  · exact Or.inr ⟨q, vm₁, B, X₁.warmed, X', hpost, hstep₁ _ fun acts => by rw [doInvoke_state]; exact hsteps⟩
end Calls
theorem vx_cls {s : State} {T : State} {vm₁ : Vm} {E : String} {k : ClassId} (hW : s.WarmedH vm₁) (h : (T.setVm vm₁).vm.findClass E = some k) : s.vm.findClass E = some k := by
  have h1 : vm₁.findClass E = some k := h
  rw [hW.alike.findClass] at h1
  exact h1
/-- the method's frame g, with q thrown over it -/
def vx_W (p : Program) (l : Launch) (e : Env) (R : Room) (s : State) (m : MethodId) (args : Array Value) (below : List Frame) (meth : Method) (c : Code) (H : Heap) (locs : List Loc) (cells slots : Nat) (Q : State → Prop) (g : JFrame) (q : Addr) : Prop :=
  ∀ T : State, T.heap = H → Stand p l e R s m args below meth c T locs cells slots → ∃ t, Steps p.tables e below ((T.setTop g).pushFrame (.throwing q)) t ∧ Q t
def vx_Run (p : Program) (l : Launch) (e : Env) (R : Room) (s : State) (m : MethodId) (args : Array Value) (below : List Frame) (meth : Method) (c : Code) (H : Heap) (locs : List Loc) (cells slots mc ms : Nat) (g : JFrame) (rest : List Value) (Qa : State → Outcome → State → Prop) (XC : String → State → State → Prop) (free : Addr → Prop) : Prop :=
  ∀ T : State, T.heap = H → Stand p l e R s m args below meth c T locs cells slots →
    (∃ (v : Option Value) (st₀ t T' : State) (L : List Loc), st₀.heap = H ∧ Stand p l e R s m args below meth c T' (locs ++ L) (cells + mc) (slots + ms) ∧ (∀ q ∈ L, free q.base) ∧ T'.heap = t.heap ∧ T'.vm = t.vm ∧ Qa st₀ (.returned v) t ∧
      Goes p e below T g T' { g with pc := g.pc + 3, stack := v.toList ++ rest }) ∨
    (∃ (q : Addr) (st₀ t T' : State) (L : List Loc) (E : String) (ce : Cell), st₀.heap = H ∧ Stand p l e R s m args below meth c T' (locs ++ L) (cells + mc) (slots + ms) ∧ (∀ z ∈ L, free z.base) ∧ T'.heap = t.heap ∧ T'.vm = t.vm ∧ XC E st₀ t ∧ t.heap[q]? = some ce ∧ ce.vm = .none ∧ s.vm.findClass E = some ce.cls ∧
      Steps p.tables e below (T.setTop g) ((T'.setTop { g with stack := rest }).pushFrame (.throwing q)))
def vx_X {S : Type} (px : S → Prop) (B : String → S → State → Prop) (A : Nat → Prop) : String → State → State → Prop := fun E st t => ∃ u : S, px u ∧ B E u t ∧ va_F A st t
section Runs
variable {p : Program} {l : Launch} {e : Env} {R : Room} {s : State} {m : MethodId} {args : Array Value} {below : List Frame} {meth : Method} {c : Code} {H : Heap} {locs : List Loc} {cells slots : Nat}
variable {y : MethodName} {bytes cc : ByteArray} {maxL nL mc ms n index : Nat} {ret : Option FieldType} {ws : List Cond} {rm : Room} {Pc : Array Value → State → Prop} {Qc : Array Value → State → Outcome → State → Prop} {XC : String → State → State → Prop} {free : Addr → Prop} {Ts : List Cond} {own C : String} {b : Addr} {As rest : List Value} {g : JFrame}
theorem vx_callBack (cb : CallB R s args own index y bytes maxL ret ws rm mc ms n) (hM : vx_Met l y ws rm Pc Qc XC mc ms free) (hbl : FrameBlind Pc) : vx_Back l R p e below s args y 3 8 (PreOf R mc ms Pc) (PostOf Qc mc ms free) (vx_Post XC mc ms free) := by
  obtain ⟨hrc, hrs, hfr, hlo, hws, hcw, -, hini, -⟩ := cb
  exact vx_back (bytes := bytes) (maxL := maxL) (ret := ret) hM hbl hrc hrs hfr hlo hws hcw (fun a' U hW => word_at hW (Or.inl (by first | rfl | simp [Cond.onTables, Cond.keeps, Cond.steady])) hini)
theorem vx_runV (S : CallFix p m c cc nL s args Ts own) (hM : vx_Met l y ws rm Pc Qc XC mc ms free) (cw : CallW R s args own C index y bytes maxL ret ws rm mc ms n) (hp : PreV s H C b Pc As)
    (hg : g.method = m) (hn : As.length = n) (hsize : g.locals.size = nL) (hstack : g.stack = As.reverse ++ .ref b :: rest) (hW : 2 * g.monitorRoom + (rest.map fun v => v.category).sum ≤ 8) (hdg : decode cc g.pc = .ok (.invokevirtual index, 3)) (hf : cells + mc ≤ R.cells ∧ slots + ms ≤ R.slots) :
    vx_Run p l e R s m args below meth c H locs cells slots mc ms g rest (Qc (Value.ref b :: As).toArray) XC free := by
  have hK : vx_Back l R p e below s args y 3 8 (PreOf R mc ms Pc) (PostOf Qc mc ms free) (vx_Post XC mc ms free) := vx_callBack cw.1 hM hp.1
  obtain ⟨⟨-, -, -, -, -, -, hcode, -, hy, hlen, hl⟩, hin, hse⟩ := cw
  obtain ⟨hx, hb, hml, ho, -⟩ := S
  obtain ⟨-, ⟨cellB, hcB, hoB, hclB⟩, hPc⟩ := hp
  intro T hT X
  rcases vx_callV X hx (C := C) (bytes := bytes) (maxL := maxL) (ret := ret) ho hl hin hse hcode hy hK (by rw [hT]; exact hcB) hoB hclB hg (hsize.trans hml.symm) (argsL := As) (rest := rest) (fun sig h => hn.trans (hlen sig h)) hstack hW (by rw [hb]; exact hdg)
    (fun vm₁ hW₁ => ⟨hf.1, hf.2, hPc (T.setVm vm₁) hT hW₁⟩) with ⟨v, vm₁, ⟨U', l2, c2, s2⟩, hW₁, X', ⟨g', mk, t, L, e1, e2, hq, h1, hL, h2, h3⟩, st⟩ | ⟨q, vm₁, ⟨U', l2, c2, s2⟩, hW₁, X', ⟨g', mk, t, L, E, ce, e1, e2, hq, hce, hcv, hcl, h1, hL, h2, h3⟩, st⟩
  · dsimp only [Pt.U, Pt.locs, Pt.cells, Pt.slots] at X' e1 e2 h1 h2 h3 st
    subst h1; subst h2; subst h3
    exact Or.inl ⟨v, (T.setVm vm₁).calling g' mk (Value.ref b :: As).toArray, t, U', L, hT, X', hL, e1, e2, hq, st⟩
  · dsimp only [Pt.U, Pt.locs, Pt.cells, Pt.slots] at X' e1 e2 h1 h2 h3 st hcl
    subst h1; subst h2; subst h3
    exact Or.inr ⟨q, (T.setVm vm₁).calling g' mk (Value.ref b :: As).toArray, t, U', L, E, ce, hT, X', hL, e1, e2, hq, hce, hcv, vx_cls hW₁ hcl, st⟩
theorem vx_runS (S : CallFix p m c cc nL s args Ts own) (hM : vx_Met l y ws rm Pc Qc XC mc ms free) (cw : CallB R s args own index y bytes maxL ret ws rm mc ms n ∧ (Cond.static y).before args s = true) (hp : PreS s H Pc As)
    (hg : g.method = m) (hn : As.length = n) (hsize : g.locals.size = nL) (hstack : g.stack = As.reverse ++ rest) (hW : 2 * g.monitorRoom + (rest.map fun v => v.category).sum ≤ 8) (hdg : decode cc g.pc = .ok (.invokestatic index, 3)) (hf : cells + mc ≤ R.cells ∧ slots + ms ≤ R.slots) :
    vx_Run p l e R s m args below meth c H locs cells slots mc ms g rest (Qc As.toArray) XC free := by
  have hK : vx_Back l R p e below s args y 3 8 (PreOf R mc ms Pc) (PostOf Qc mc ms free) (vx_Post XC mc ms free) := vx_callBack cw.1 hM hp.1
  obtain ⟨⟨-, -, -, -, -, -, hcode, hini, hy, hlen, hl⟩, hstt⟩ := cw
  obtain ⟨hx, hb, hml, ho, -⟩ := S
  intro T hT X
  rcases vx_callS X hx (bytes := bytes) (maxL := maxL) (ret := ret) ho hl hstt hini hcode hy hK hg (hsize.trans hml.symm) (argsL := As) (rest := rest) (fun sig h => hn.trans (hlen sig h)) hstack hW (by rw [hb]; exact hdg)
    (fun vm₁ hW₁ => ⟨hf.1, hf.2, hp.2 (T.setVm vm₁) hT hW₁⟩) with ⟨v, vm₁, ⟨U', l2, c2, s2⟩, hW₁, X', ⟨g', mk, t, L, e1, e2, hq, h1, hL, h2, h3⟩, st⟩ | ⟨q, vm₁, ⟨U', l2, c2, s2⟩, hW₁, X', ⟨g', mk, t, L, E, ce, e1, e2, hq, hce, hcv, hcl, h1, hL, h2, h3⟩, st⟩
  · dsimp only [Pt.U, Pt.locs, Pt.cells, Pt.slots] at X' e1 e2 h1 h2 h3 st
    subst h1; subst h2; subst h3
    exact Or.inl ⟨v, (T.setVm vm₁).calling g' mk As.toArray, t, U', L, hT, X', hL, e1, e2, hq, st⟩
  · dsimp only [Pt.U, Pt.locs, Pt.cells, Pt.slots] at X' e1 e2 h1 h2 h3 st hcl
    subst h1; subst h2; subst h3
    exact Or.inr ⟨q, (T.setVm vm₁).calling g' mk As.toArray, t, U', L, E, ce, hT, X', hL, e1, e2, hq, hce, hcv, vx_cls hW₁ hcl, st⟩
end Runs
section Rows
variable {p : Program} {l : Launch} {e : Env} {R : Room} {s : State} {m : MethodId} {args : Array Value} {below : List Frame} {meth : Method} {c : Code} {H : Heap} {locs : List Loc} {cells slots : Nat} {Q : State → Prop}
variable {mc ms : Nat} {free : Addr → Prop} {A0 A1 : Nat → Prop} {H0 : Heap} {a : Array Value} {pc : Nat} {ls : Array Slot} {st0 rest : List Value}
theorem vx_keep {st₀ t T' : State} {L : List Loc} (h0 : st₀.heap = H) (e1 : T'.heap = t.heap) (hS : va_S A0 H0 H locs) (hA : ∀ q, q < H.size → A1 q → A0 q) (hf : ∀ q, free q → A0 q) (hL : ∀ q ∈ L, free q.base) (hF : va_F A1 st₀ t) :
    H.size ≤ T'.heap.size ∧ (∀ q : Nat, q < H.size → ¬ A1 q → T'.heap[q]? = H[q]?) ∧ va_S A0 H0 T'.heap (locs ++ L) := by
  obtain ⟨hz, hk⟩ := hF
  rw [h0] at hz hk
  exact ⟨by rw [e1]; exact hz, fun q h1 h2 => by rw [e1]; exact hk q h1 h2,
    ⟨Nat.le_trans hS.1 (by rw [e1]; exact hz), fun q h1 h2 => by rw [e1, hk q (Nat.lt_of_lt_of_le h1 hS.1) (fun z => h2 (hA q (Nat.lt_of_lt_of_le h1 hS.1) z))]; exact hS.2.1 q h1 h2, fun q hq => by
      rcases List.mem_append.mp hq with h | h
      · exact hS.2.2 q h
      · exact hf _ (hL q h)⟩⟩
theorem vx_calli {S SX : Type} {post : Int32 → S → Prop} {px : SX → Prop} {B : S → State → Prop} {BX : String → SX → State → Prop} {AX : Nat → Prop} (hr : vx_Run p l e R s m args below meth c H locs cells slots mc ms (F0 m pc ls st0) rest (va_Qi post B A1 a) (vx_X px BX AX) free) (hS : va_S A0 H0 H locs) (hA : ∀ q, q < H.size → A1 q → A0 q) (hf : ∀ q, free q → A0 q) (hAX : ∀ q, q < H.size → AX q → A0 q)
    (kx : ∀ (E : String) (ce : Cell) (q9 : Addr) (u : SX) (t : State) (H1 : Heap) (locs1 : List Loc), t.heap = H1 → s.vm.Alike t.vm → px u → BX E u t → H.size ≤ H1.size → (∀ q : Nat, q < H.size → ¬ AX q → H1[q]? = H[q]?) → va_S A0 H0 H1 locs1 → H1[q9]? = some ce → ce.vm = .none → s.vm.findClass E = some ce.cls → vx_W p l e R s m args below meth c H1 locs1 (cells + mc) (slots + ms) Q (F0 m pc ls rest) q9)
    (kk : ∀ (r : Int32) (u : S) (t : State) (H1 : Heap) (locs1 : List Loc), t.heap = H1 → s.vm.Alike t.vm → post r u → B u t → H.size ≤ H1.size → (∀ q : Nat, q < H.size → ¬ A1 q → H1[q]? = H[q]?) → va_S A0 H0 H1 locs1 → W p l e R s m args below meth c H1 locs1 (cells + mc) (slots + ms) Q (F0 m (pc + 3) ls (.int r :: rest))) : W p l e R s m args below meth c H locs cells slots Q (F0 m pc ls st0) := by
  intro T hT X
  rcases hr T hT X with ⟨v, st₀, t, T', L, h0, X', hL, e1, e2, ⟨⟨r, u, hv, hp, hb⟩, hF⟩, st⟩ | ⟨q, st₀, t, T', L, E, ce, h0, X', hL, e1, e2, ⟨u, hp, hb, hF⟩, hce, hcv, hcl, st⟩
  · cases hv
    obtain ⟨k1, k2, k3⟩ := vx_keep h0 e1 hS hA hf hL hF
    obtain ⟨t2, a1, b1⟩ := kk r u t T'.heap (locs ++ L) e1.symm (by rw [← e2]; exact X'.warmed.alike) hp hb k1 k2 k3 T' rfl X'
    exact ⟨t2, st t2 a1, b1⟩
  · obtain ⟨k1, k2, k3⟩ := vx_keep h0 e1 hS hAX hf hL hF
    obtain ⟨t2, a1, b1⟩ := kx E ce q u t T'.heap (locs ++ L) e1.symm (by rw [← e2]; exact X'.warmed.alike) hp hb k1 k2 k3 (by rw [e1]; exact hce) hcv hcl T' rfl X'
    exact ⟨t2, st.trans a1, b1⟩
theorem vx_calll {S SX : Type} {post : Int64 → S → Prop} {px : SX → Prop} {B : S → State → Prop} {BX : String → SX → State → Prop} {AX : Nat → Prop} (hr : vx_Run p l e R s m args below meth c H locs cells slots mc ms (F0 m pc ls st0) rest (va_Ql post B A1 a) (vx_X px BX AX) free) (hS : va_S A0 H0 H locs) (hA : ∀ q, q < H.size → A1 q → A0 q) (hf : ∀ q, free q → A0 q) (hAX : ∀ q, q < H.size → AX q → A0 q)
    (kx : ∀ (E : String) (ce : Cell) (q9 : Addr) (u : SX) (t : State) (H1 : Heap) (locs1 : List Loc), t.heap = H1 → s.vm.Alike t.vm → px u → BX E u t → H.size ≤ H1.size → (∀ q : Nat, q < H.size → ¬ AX q → H1[q]? = H[q]?) → va_S A0 H0 H1 locs1 → H1[q9]? = some ce → ce.vm = .none → s.vm.findClass E = some ce.cls → vx_W p l e R s m args below meth c H1 locs1 (cells + mc) (slots + ms) Q (F0 m pc ls rest) q9)
    (kk : ∀ (r : Int64) (u : S) (t : State) (H1 : Heap) (locs1 : List Loc), t.heap = H1 → s.vm.Alike t.vm → post r u → B u t → H.size ≤ H1.size → (∀ q : Nat, q < H.size → ¬ A1 q → H1[q]? = H[q]?) → va_S A0 H0 H1 locs1 → W p l e R s m args below meth c H1 locs1 (cells + mc) (slots + ms) Q (F0 m (pc + 3) ls (.long r :: rest))) : W p l e R s m args below meth c H locs cells slots Q (F0 m pc ls st0) := by
  intro T hT X
  rcases hr T hT X with ⟨v, st₀, t, T', L, h0, X', hL, e1, e2, ⟨⟨r, u, hv, hp, hb⟩, hF⟩, st⟩ | ⟨q, st₀, t, T', L, E, ce, h0, X', hL, e1, e2, ⟨u, hp, hb, hF⟩, hce, hcv, hcl, st⟩
  · cases hv
    obtain ⟨k1, k2, k3⟩ := vx_keep h0 e1 hS hA hf hL hF
    obtain ⟨t2, a1, b1⟩ := kk r u t T'.heap (locs ++ L) e1.symm (by rw [← e2]; exact X'.warmed.alike) hp hb k1 k2 k3 T' rfl X'
    exact ⟨t2, st t2 a1, b1⟩
  · obtain ⟨k1, k2, k3⟩ := vx_keep h0 e1 hS hAX hf hL hF
    obtain ⟨t2, a1, b1⟩ := kx E ce q u t T'.heap (locs ++ L) e1.symm (by rw [← e2]; exact X'.warmed.alike) hp hb k1 k2 k3 (by rw [e1]; exact hce) hcv hcl T' rfl X'
    exact ⟨t2, st.trans a1, b1⟩
theorem vx_callf {S SX : Type} {post : UInt32 → S → Prop} {px : SX → Prop} {B : S → State → Prop} {BX : String → SX → State → Prop} {AX : Nat → Prop} (hr : vx_Run p l e R s m args below meth c H locs cells slots mc ms (F0 m pc ls st0) rest (va_Qf post B A1 a) (vx_X px BX AX) free) (hS : va_S A0 H0 H locs) (hA : ∀ q, q < H.size → A1 q → A0 q) (hf : ∀ q, free q → A0 q) (hAX : ∀ q, q < H.size → AX q → A0 q)
    (kx : ∀ (E : String) (ce : Cell) (q9 : Addr) (u : SX) (t : State) (H1 : Heap) (locs1 : List Loc), t.heap = H1 → s.vm.Alike t.vm → px u → BX E u t → H.size ≤ H1.size → (∀ q : Nat, q < H.size → ¬ AX q → H1[q]? = H[q]?) → va_S A0 H0 H1 locs1 → H1[q9]? = some ce → ce.vm = .none → s.vm.findClass E = some ce.cls → vx_W p l e R s m args below meth c H1 locs1 (cells + mc) (slots + ms) Q (F0 m pc ls rest) q9)
    (kk : ∀ (r : UInt32) (u : S) (t : State) (H1 : Heap) (locs1 : List Loc), t.heap = H1 → s.vm.Alike t.vm → post r u → B u t → H.size ≤ H1.size → (∀ q : Nat, q < H.size → ¬ A1 q → H1[q]? = H[q]?) → va_S A0 H0 H1 locs1 → W p l e R s m args below meth c H1 locs1 (cells + mc) (slots + ms) Q (F0 m (pc + 3) ls (.float r :: rest))) : W p l e R s m args below meth c H locs cells slots Q (F0 m pc ls st0) := by
  intro T hT X
  rcases hr T hT X with ⟨v, st₀, t, T', L, h0, X', hL, e1, e2, ⟨⟨r, u, hv, hp, hb⟩, hF⟩, st⟩ | ⟨q, st₀, t, T', L, E, ce, h0, X', hL, e1, e2, ⟨u, hp, hb, hF⟩, hce, hcv, hcl, st⟩
  · cases hv
    obtain ⟨k1, k2, k3⟩ := vx_keep h0 e1 hS hA hf hL hF
    obtain ⟨t2, a1, b1⟩ := kk r u t T'.heap (locs ++ L) e1.symm (by rw [← e2]; exact X'.warmed.alike) hp hb k1 k2 k3 T' rfl X'
    exact ⟨t2, st t2 a1, b1⟩
  · obtain ⟨k1, k2, k3⟩ := vx_keep h0 e1 hS hAX hf hL hF
    obtain ⟨t2, a1, b1⟩ := kx E ce q u t T'.heap (locs ++ L) e1.symm (by rw [← e2]; exact X'.warmed.alike) hp hb k1 k2 k3 (by rw [e1]; exact hce) hcv hcl T' rfl X'
    exact ⟨t2, st.trans a1, b1⟩
theorem vx_calld {S SX : Type} {post : UInt64 → S → Prop} {px : SX → Prop} {B : S → State → Prop} {BX : String → SX → State → Prop} {AX : Nat → Prop} (hr : vx_Run p l e R s m args below meth c H locs cells slots mc ms (F0 m pc ls st0) rest (va_Qd post B A1 a) (vx_X px BX AX) free) (hS : va_S A0 H0 H locs) (hA : ∀ q, q < H.size → A1 q → A0 q) (hf : ∀ q, free q → A0 q) (hAX : ∀ q, q < H.size → AX q → A0 q)
    (kx : ∀ (E : String) (ce : Cell) (q9 : Addr) (u : SX) (t : State) (H1 : Heap) (locs1 : List Loc), t.heap = H1 → s.vm.Alike t.vm → px u → BX E u t → H.size ≤ H1.size → (∀ q : Nat, q < H.size → ¬ AX q → H1[q]? = H[q]?) → va_S A0 H0 H1 locs1 → H1[q9]? = some ce → ce.vm = .none → s.vm.findClass E = some ce.cls → vx_W p l e R s m args below meth c H1 locs1 (cells + mc) (slots + ms) Q (F0 m pc ls rest) q9)
    (kk : ∀ (r : UInt64) (u : S) (t : State) (H1 : Heap) (locs1 : List Loc), t.heap = H1 → s.vm.Alike t.vm → post r u → B u t → H.size ≤ H1.size → (∀ q : Nat, q < H.size → ¬ A1 q → H1[q]? = H[q]?) → va_S A0 H0 H1 locs1 → W p l e R s m args below meth c H1 locs1 (cells + mc) (slots + ms) Q (F0 m (pc + 3) ls (.double r :: rest))) : W p l e R s m args below meth c H locs cells slots Q (F0 m pc ls st0) := by
  intro T hT X
  rcases hr T hT X with ⟨v, st₀, t, T', L, h0, X', hL, e1, e2, ⟨⟨r, u, hv, hp, hb⟩, hF⟩, st⟩ | ⟨q, st₀, t, T', L, E, ce, h0, X', hL, e1, e2, ⟨u, hp, hb, hF⟩, hce, hcv, hcl, st⟩
  · cases hv
    obtain ⟨k1, k2, k3⟩ := vx_keep h0 e1 hS hA hf hL hF
    obtain ⟨t2, a1, b1⟩ := kk r u t T'.heap (locs ++ L) e1.symm (by rw [← e2]; exact X'.warmed.alike) hp hb k1 k2 k3 T' rfl X'
    exact ⟨t2, st t2 a1, b1⟩
  · obtain ⟨k1, k2, k3⟩ := vx_keep h0 e1 hS hAX hf hL hF
    obtain ⟨t2, a1, b1⟩ := kx E ce q u t T'.heap (locs ++ L) e1.symm (by rw [← e2]; exact X'.warmed.alike) hp hb k1 k2 k3 (by rw [e1]; exact hce) hcv hcl T' rfl X'
    exact ⟨t2, st.trans a1, b1⟩
theorem vx_callv {S SX : Type} {post : S → Prop} {px : SX → Prop} {B : S → State → Prop} {BX : String → SX → State → Prop} {AX : Nat → Prop} (hr : vx_Run p l e R s m args below meth c H locs cells slots mc ms (F0 m pc ls st0) rest (va_Qv post B A1 a) (vx_X px BX AX) free) (hS : va_S A0 H0 H locs) (hA : ∀ q, q < H.size → A1 q → A0 q) (hf : ∀ q, free q → A0 q) (hAX : ∀ q, q < H.size → AX q → A0 q)
    (kx : ∀ (E : String) (ce : Cell) (q9 : Addr) (u : SX) (t : State) (H1 : Heap) (locs1 : List Loc), t.heap = H1 → s.vm.Alike t.vm → px u → BX E u t → H.size ≤ H1.size → (∀ q : Nat, q < H.size → ¬ AX q → H1[q]? = H[q]?) → va_S A0 H0 H1 locs1 → H1[q9]? = some ce → ce.vm = .none → s.vm.findClass E = some ce.cls → vx_W p l e R s m args below meth c H1 locs1 (cells + mc) (slots + ms) Q (F0 m pc ls rest) q9)
    (kk : ∀ (u : S) (t : State) (H1 : Heap) (locs1 : List Loc), t.heap = H1 → s.vm.Alike t.vm → post u → B u t → H.size ≤ H1.size → (∀ q : Nat, q < H.size → ¬ A1 q → H1[q]? = H[q]?) → va_S A0 H0 H1 locs1 → W p l e R s m args below meth c H1 locs1 (cells + mc) (slots + ms) Q (F0 m (pc + 3) ls (rest))) : W p l e R s m args below meth c H locs cells slots Q (F0 m pc ls st0) := by
  intro T hT X
  rcases hr T hT X with ⟨v, st₀, t, T', L, h0, X', hL, e1, e2, ⟨⟨u, hv, hp, hb⟩, hF⟩, st⟩ | ⟨q, st₀, t, T', L, E, ce, h0, X', hL, e1, e2, ⟨u, hp, hb, hF⟩, hce, hcv, hcl, st⟩
  · cases hv
    obtain ⟨k1, k2, k3⟩ := vx_keep h0 e1 hS hA hf hL hF
    obtain ⟨t2, a1, b1⟩ := kk u t T'.heap (locs ++ L) e1.symm (by rw [← e2]; exact X'.warmed.alike) hp hb k1 k2 k3 T' rfl X'
    exact ⟨t2, st t2 a1, b1⟩
  · obtain ⟨k1, k2, k3⟩ := vx_keep h0 e1 hS hAX hf hL hF
    obtain ⟨t2, a1, b1⟩ := kx E ce q u t T'.heap (locs ++ L) e1.symm (by rw [← e2]; exact X'.warmed.alike) hp hb k1 k2 k3 (by rw [e1]; exact hce) hcv hcl T' rfl X'
    exact ⟨t2, st.trans a1, b1⟩
/-- caught by the row x of this method's table; the rows ahead don't take it -/
theorem vx_catch {own name : String} {E : String} {ce : Cell} {q : Addr} (hown : s.vm.findClass own = some m.cls) (pre : List ExceptionTableEntry) (x : ExceptionTableEntry) (suf : List ExceptionTableEntry) (hsplit : c.exceptionTable.toList = pre ++ x :: suf)
    (hpass : ∀ z ∈ pre, covers z pc = false ∨ (z.catchType ≠ 0 ∧ ∃ nm : String, (Cond.classLink own z.catchType nm).before args s = true ∧ va_Nc E nm s)) (hx : covers x pc = true) (h0 : x.catchType ≠ 0)
    (hlink : (Cond.classLink own x.catchType name).before args s = true) (hcast : (Cond.castable E name).before args s = true) (hcell : H[q]? = some ce) (hv : ce.vm = .none) (hcl : s.vm.findClass E = some ce.cls)
    (kk : W p l e R s m args below meth c H locs cells slots Q (F0 m x.handlerPc ls [.ref q])) : vx_W p l e R s m args below meth c H locs cells slots Q (F0 m pc ls rest) q := by
  intro T hT X
  have hpl : e.platform.magicAccessors = ({} : Platform).magicAccessors := by rw [X.admits.platform]
  obtain ⟨c3, c4, hc3, hc4, hasg⟩ := Cond.castable_spec hcast
  cases Option.some.inj (hc3.symm.trans hcl)
  obtain ⟨c5, hc5, hcl5⟩ := Cond.classLink_spec hown hlink e.platform hpl
  cases Option.some.inj (hc4.symm.trans hc5)
  obtain ⟨vm', X', st⟩ := X.thenCaughtThrough q (g := F0 m pc ls rest) rfl (Steps.refl _) (by rw [hT]; exact hcell) (by rw [hv]; rfl) (by obtain ⟨k9, h9, -⟩ := Vm.findClass_spec hcl; exact ⟨k9, h9⟩) pre x suf hsplit
    (fun z hz => by
      rcases hpass z hz with h | ⟨hz0, nm, hl1, hn1⟩
      · exact Or.inl h
      · obtain ⟨c6, hc6, hcl6⟩ := Cond.classLink_spec hown hl1 e.platform hpl
        obtain ⟨a8, b8, h1, h2, h3⟩ := hn1
        cases Option.some.inj (h1.symm.trans hcl)
        cases Option.some.inj (h2.symm.trans hc6)
        exact Or.inr ⟨hz0, _, hcl6, h3⟩) hx (Or.inr ⟨h0, c4, hcl5, hasg⟩)
  obtain ⟨t, a1, b1⟩ := kk (T.setVm vm') hT X'
  exact ⟨t, st.trans a1, b1⟩
end Rows
section Ends
variable {p : Program} {l : Launch} {e : Env} {R : Room} {s : State} {m : MethodId} {args : Array Value} {below : List Frame} {meth : Method} {c : Code} {H : Heap} {locs : List Loc} {cells slots : Nat} {Q : State → Prop}
variable {mc ms : Nat} {free : Addr → Prop} {A0 A1 : Nat → Prop} {H0 : Heap} {a : Array Value} {ls : Array Slot} {st0 rest : List Value}
variable {Qc : Array Value → State → Outcome → State → Prop} {XC : String → State → State → Prop}
/-- what a body that may throw owes at its end -/
def vx_MQ (below : List Frame) (Qc : Array Value → State → Outcome → State → Prop) (XC : String → State → State → Prop) (a : Array Value) (s : State) (mc ms : Nat) (free : Addr → Prop) : State → Prop := fun t =>
  ∃ o, t.status = .running ∧ Ended t below o ∧ vx_Q Qc XC mc ms free a s o t
theorem vx_ret {g : JFrame} {mc ms : Nat} (k : W p l e R s m args below meth c H locs cells slots (MQ below Qc args s mc ms free) g) : W p l e R s m args below meth c H locs cells slots (vx_MQ below Qc XC args s mc ms free) g := by
  intro T hT X
  obtain ⟨t, a1, o, b1, b2, b3, b4⟩ := k T hT X
  exact ⟨t, a1, o, b1, b2, Or.inl ⟨b3, b4⟩⟩
/-- not caught here: it goes on to the caller -/
theorem vx_widen {g : JFrame} {q : Addr} {k n : Nat} (h1 : cells ≤ k) (h2 : slots ≤ n) (kk : vx_W p l e R s m args below meth c H locs k n Q g q) : vx_W p l e R s m args below meth c H locs cells slots Q g q := fun T hT X => kk T hT (stand_widen X h1 h2)
theorem vx_out {pc : Nat} {E : String} {ce : Cell} {q : Addr} {mc ms : Nat} (hout : ∀ x ∈ c.exceptionTable.toList, covers x pc = false) (hlocks : meth.locks = false) (hcell : H[q]? = some ce) (hv : ce.vm = .none) (hcl : s.vm.findClass E = some ce.cls)
    (hx : ∀ t : State, t.heap = H → s.vm.Alike t.vm → XC E s t) (hf : ∀ z ∈ locs, free z.base) (hc : cells ≤ mc) (hs : slots ≤ ms) :
    vx_W p l e R s m args below meth c H locs cells slots (vx_MQ below Qc XC args s mc ms free) (F0 m pc ls rest) q := by
  intro T hT X
  obtain ⟨st1, hrun, hend, hW, hsm⟩ := X.leaveThrown q (g := F0 m pc ls rest) rfl rfl rfl hout hlocks
  have hcell9 : (T.setFrames (.throwing q :: below)).heap[q]? = some ce := by
    show T.heap[q]? = some ce
    rw [hT]; exact hcell
  exact ⟨_, st1, .threw q, hrun, hend, Or.inr ⟨q, rfl, E, ce, locs, hx _ hT hW.alike, hcell9, hv, hcl, hW, hsm.mono hc hs, hf⟩⟩
theorem vx_frame {U : State} {k n : Nat} (h : s.sameButNew ({ U with vm := s.vm } : State) locs k n) : s.heap.size ≤ U.heap.size ∧ ∀ q : Nat, q < s.heap.size → (∀ z ∈ locs, z.base ≠ q) → U.heap[q]? = s.heap[q]? := by
  obtain ⟨-, h2, -, -, -, h6⟩ := h
  refine ⟨h2, fun q hq hz => ?_⟩
  obtain ⟨c9, e1, e2, e3, e4⟩ := h6 q _ (Array.getElem?_eq_getElem hq)
  have hs : c9.slots = (s.heap[q]).slots := Array.ext_getElem? fun i => e4 i fun hm => hz _ hm rfl
  have h9 : c9 = s.heap[q] := by
    rw [hs] at e2
    exact e2
  have e5 : U.heap[q]? = some c9 := e1
  rw [e5, h9, Array.getElem?_eq_getElem hq]
/-- the words of a throw but the four that speak of the heap -/
def vx_no (w : Cond) : Bool := decide (w ≠ .isRef (.static Bundle.tN "UNASSIGNED_STACK" Bundle.steD)) && decide (w ≠ .isRef (.static Bundle.tN "SUPPRESSED_SENTINEL" Bundle.listD)) && decide (w ≠ .laysStatic Bundle.tN "UNASSIGNED_STACK" Bundle.steD) && decide (w ≠ .laysStatic Bundle.tN "SUPPRESSED_SENTINEL" Bundle.listD)
def vx_at0 (own : String) (ic : Nat) (X : String) (names : List String) : List Cond := (Bundle.ownAtoms0 own ic X names).filter vx_no
def vx_atS (own : String) (ic : Nat) (X : String) (names : List String) : List Cond := (Bundle.ownAtoms own ic X names).filter vx_no
/-- a word that the tables alone decide, or a good one -/
def vx_ot (w : Cond) : Bool := w.onTables || goodWord w
theorem vx_ot_at {args a' : Array Value} {s U : State} {w : Cond} (hW : s.WarmedH U.vm) (hvm : s.vm = U.vm) (hg : vx_ot w = true) (h : w.before args s = true) : w.before a' U = true := by
  simp only [vx_ot, Bool.or_eq_true] at hg
  rcases hg with hg | hg
  · exact va_tabs hg hvm h
  · exact word_at hW (good_of_word hg) h
/-- a list's words: the good ones out of the method's own list, the others by premises of their own -/
theorem vx_hat {args : Array Value} {s : State} {L B : List Cond} (h1 : ∀ w ∈ L.filter goodWord, w.before args s = true) (h2 : ∀ w ∈ L.filter (fun w => !goodWord w), w ∈ B) (h3 : ∀ w ∈ B, w.before args s = true) : ∀ w ∈ L, w.before args s = true := by
  intro w hw
  by_cases g : goodWord w = true
  · exact h1 w (List.mem_filter.mpr ⟨hw, g⟩)
  · refine h3 w (h2 w (List.mem_filter.mpr ⟨hw, ?_⟩))
    show (!goodWord w) = true
    cases hgw : goodWord w
    · rfl
    · exact absurd hgw g
theorem vx_c {args : Array Value} {s : State} {w : Cond} {B : List Cond} (h : w.before args s = true) (t : ∀ w ∈ B, w.before args s = true) : ∀ w' ∈ w :: B, w'.before args s = true := fun w' h' => (List.mem_cons.mp h').elim (fun e => by rw [e]; exact h) (t w')
theorem vx_n {args : Array Value} {s : State} : ∀ w ∈ ([] : List Cond), w.before args s = true := fun _ h => nomatch h
theorem vx_own {args : Array Value} {s : State} {L : List Cond} (h1 : ∀ w ∈ L.filter vx_no, w.before args s = true)
    (hU : (Cond.isRef (.static Bundle.tN "UNASSIGNED_STACK" Bundle.steD)).before args s = true) (hN : (Cond.isRef (.static Bundle.tN "SUPPRESSED_SENTINEL" Bundle.listD)).before args s = true)
    (lU : (Cond.laysStatic Bundle.tN "UNASSIGNED_STACK" Bundle.steD).before args s = true) (lN : (Cond.laysStatic Bundle.tN "SUPPRESSED_SENTINEL" Bundle.listD).before args s = true) : ∀ w ∈ L, w.before args s = true := by
  intro w hw
  by_cases e1 : w = .isRef (.static Bundle.tN "UNASSIGNED_STACK" Bundle.steD)
  · rw [e1]; exact hU
  · by_cases e2 : w = .isRef (.static Bundle.tN "SUPPRESSED_SENTINEL" Bundle.listD)
    · rw [e2]; exact hN
    · by_cases e3 : w = .laysStatic Bundle.tN "UNASSIGNED_STACK" Bundle.steD
      · rw [e3]; exact lU
      · by_cases e4 : w = .laysStatic Bundle.tN "SUPPRESSED_SENTINEL" Bundle.listD
        · rw [e4]; exact lN
        · exact h1 w (List.mem_filter.mpr ⟨hw, by unfold vx_no; rw [decide_eq_true e1, decide_eq_true e2, decide_eq_true e3, decide_eq_true e4]; rfl⟩)
/-- where a static field lies, its class's statics cell in H -/
def vx_L (C n d : String) (A : Nat → Prop) (U : State) (H : Heap) : Prop := ∃ (c : ClassId) (k : Class) (i : Nat) (f : Field) (a : Nat) (cell : Cell), U.vm.findClass C = some c ∧ U.fieldFound? C n d = some (c, k, i, f) ∧ f.isStatic = true ∧ k.statics = some a ∧ H[a]? = some cell ∧ cell.vm.isStatics = true ∧ cell.cls = c ∧ f.slot < cell.slots.size ∧ k.staticTypes[f.slot]? = some f.type ∧ ¬ A a
theorem vx_L.moved {C n d : String} {A : Nat → Prop} {u U : State} {H : Heap} (hvm : u.vm.Alike U.vm) (h : vx_L C n d A u H) : vx_L C n d A U H := by
  obtain ⟨c, k, i, f, a, cell, h1, h2, h3, h4, h5, h6, h7, h8, h9, h10⟩ := h
  obtain ⟨k', hi', he⟩ := State.fieldFound?_setVm hvm h2
  exact ⟨c, k', i, f, a, cell, by rw [hvm.findClass]; exact h1, hi', h3, by rw [he]; exact h4, h5, h6, h7, h8, by rw [he]; exact h9, h10⟩
theorem vx_L.kept {C n d : String} {A : Nat → Prop} {U : State} {H H1 : Heap} (h : vx_L C n d A U H) (hq : ∀ a : Nat, a < H.size → ¬ A a → H1[a]? = H[a]?) : vx_L C n d A U H1 := by
  obtain ⟨c, k, i, f, a, cell, h1, h2, h3, h4, h5, h6, h7, h8, h9, h10⟩ := h
  exact ⟨c, k, i, f, a, cell, h1, h2, h3, h4, by rw [hq a (Array.getElem?_eq_some_iff.mp h5).1 h10]; exact h5, h6, h7, h8, h9, h10⟩
theorem vx_L.narrow {C n d : String} {A B : Nat → Prop} {U : State} {H : Heap} (h : vx_L C n d A U H) (hAB : ∀ q, B q → A q) : vx_L C n d B U H := by
  obtain ⟨c, k, i, f, a, cell, h1, h2, h3, h4, h5, h6, h7, h8, h9, h10⟩ := h
  exact ⟨c, k, i, f, a, cell, h1, h2, h3, h4, h5, h6, h7, h8, h9, fun z => h10 (hAB _ z)⟩
theorem vx_L.word {C n d : String} {A : Nat → Prop} {s : State} {args : Array Value} (h : vx_L C n d A s s.heap) : (Cond.laysStatic C n d).before args s = true := by
  obtain ⟨c, k, i, f, a, cell, h1, h2, h3, h4, h5, h6, h7, h8, h9, -⟩ := h
  show (Cond.laysStatic C n d).holds args s none s [] = true
  exact Cond.laysStatic_of h1 h2 h3 h4 h5 h6 h7 h8 h9
/-- .. and what it holds: null or some reference -/
def vx_Zq (C n d : String) (A : Nat → Prop) (U : State) (H : Heap) : Prop := va_Zq C n d A U H ∧ vx_L C n d A U H
theorem vx_Zq.moved {C n d : String} {A : Nat → Prop} {u U : State} {H : Heap} (hvm : u.vm.Alike U.vm) (h : vx_Zq C n d A u H) : vx_Zq C n d A U H := ⟨va_Zq.moved hvm h.1, vx_L.moved hvm h.2⟩
theorem vx_Zq.kept {C n d : String} {A : Nat → Prop} {U : State} {H H1 : Heap} (h : vx_Zq C n d A U H) (hq : ∀ a : Nat, a < H.size → ¬ A a → H1[a]? = H[a]?) : vx_Zq C n d A U H1 := ⟨va_Zq.kept h.1 hq, vx_L.kept h.2 hq⟩
theorem vx_Zq.narrow {C n d : String} {A B : Nat → Prop} {U : State} {H : Heap} (h : vx_Zq C n d A U H) (hAB : ∀ q, B q → A q) : vx_Zq C n d B U H := ⟨va_Zq.narrow h.1 hAB, vx_L.narrow h.2 hAB⟩
theorem vx_Zqof {args : Array Value} {s : State} {C n d : String} {A : Nat → Prop} (hl : (Cond.laysStatic C n d).before args s = true) (hini : (Cond.initialized C).before args s = true) (h : (Cond.isRef (.static C n d)).before args s = true) (hA : ∀ a : Nat, a < s.heap.size → ¬ A a) : vx_Zq C n d A s s.heap := by
  refine ⟨va_Zqof hl hini h hA, ?_⟩
  obtain ⟨c, k, i, f, a, cell, h1, h2, h3, h4, h5, h6, h7, h8, h9⟩ := Cond.laysStatic_spec hl
  exact ⟨c, k, i, f, a, cell, h1, h2, h3, h4, h5, h6, h7, h8, h9, hA a (Array.getElem?_eq_some_iff.mp h5).1⟩
theorem vx_isRef {C n d : String} {v : Value} {A : Nat → Prop} {s : State} {args : Array Value} (h : va_Z C n d v A s s.heap) (hv : v.isRef = true) : (Cond.isRef (.static C n d)).before args s = true := by
  obtain ⟨cf, kf, fi, f, a, cell, h1, h2, h3, h4, h5, h6, h7, -⟩ := h
  have he : (Term.static C n d).eval args s none [] s = some v := by
    simp [Term.eval, State.fieldNamed?, h1, h2, h4, h5, h6, h7]
  simp only [Cond.before, Cond.holds, Cond.value, he]
  cases v <;> simp_all [Value.isRef]
theorem vx_isRefq {C n d : String} {A : Nat → Prop} {s : State} {args : Array Value} (h : va_Zq C n d A s s.heap) : (Cond.isRef (.static C n d)).before args s = true := by
  rcases h with h | ⟨t, h⟩
  · exact vx_isRef h rfl
  · exact vx_isRef h rfl
/-- the same frame, seen from here: as if the method were called anew in this heap -/
theorem vx_rebase {T : State} (X : Stand p l e R s m args below meth c T locs cells slots) {R' : Room} (hf : R'.frames ≤ R.frames) (hl : R'.locals ≤ R.locals) (hc : cells + R'.cells ≤ R.cells) (hs : slots + R'.slots ≤ R.slots) :
    Stand p l e R' ((T.setVm s.vm).setFrames (.invoking m args :: below)) m args below meth c T [] 0 0 := by
  have htop : (T.setVm s.vm).topJava?.isSome := X.here.top
  have hF : ((T.setVm s.vm).setFrames (.invoking m args :: below)).frames = .invoking m args :: below := State.frames_setFrames _ (State.cur_lt_of_top htop)
  obtain ⟨g₀, hg0⟩ := Option.isSome_iff_exists.mp htop
  obtain ⟨r, hr⟩ := State.topJava?_eq_some.mp hg0
  have hl9 : e.platform.stackLimits (T.setVm s.vm).me = e.platform.stackLimits s.me := X.limits
  have hb9 : (T.setVm s.vm).me.stackBytes = s.me.stackBytes := X.bytes
  refine ⟨X.admits, X.cas, X.clock, hF, ?_, X.hears, X.method, X.code, X.here, X.tail, X.warmed, ?_, ?_, ?_⟩
  · have h := X.room
    have hU : ((T.setVm s.vm).setFrames (.invoking m args :: below)).localsInUse = s.localsInUse := by
      rw [State.localsInUse_invoking hF (meth := meth) (c := c) X.method X.code, State.localsInUse_invoking X.frames X.method X.code]
    simp only [State.hasRoom, Bool.and_eq_true, decide_eq_true_eq] at h ⊢
    obtain ⟨⟨⟨⟨h1, h2, h3, h4, h5, h6⟩, h7⟩, h8⟩, h9⟩ := h
    rw [X.frames, List.length_cons] at h2 h3
    have q1 := X.heapSize
    have q2 := X.used
    simp only [hF, hU, List.length_cons, State.stackLimits_setFrames, State.stackBytes_setFrames, hl9, hb9]
    refine ⟨⟨⟨⟨by omega, by omega, by omega, by omega, by omega, h6⟩, ?_⟩, ?_⟩, X.book⟩
    · show T.heap.size + R'.cells ≤ e.platform.maxCells
      omega
    · show T.slotsUsed + R'.slots ≤ e.platform.maxSlots
      omega
  · rw [State.stackLimits_setFrames]; rfl
  · rw [State.stackBytes_setFrames]; rfl
  · refine ⟨?_, Nat.le_refl _, Nat.le_refl _, ?_, ?_, fun a c9 h9 => ⟨c9, h9, rfl, rfl, fun _ _ => rfl⟩⟩
    · obtain ⟨t, ht, -⟩ := State.frames_cons hr
      show T.setVm s.vm = { ((T.setVm s.vm).setFrames (.invoking m args :: below)).setFrames (T.setVm s.vm).frames with heap := T.heap, slotsUsed := T.slotsUsed }
      rw [State.setFrames_setFrames, State.setFrames_self ht]
      rfl
    · show T.slotsUsed = T.slotsUsed + ((T.heap.toList.drop T.heap.size).map (·.slots.size)).sum
      rw [List.drop_eq_nil_of_le (Nat.le_of_eq Array.length_toList)]
      rfl
    · show ((T.heap.toList.drop T.heap.size).map (·.slots.size)).sum ≤ 0
      rw [List.drop_eq_nil_of_le (Nat.le_of_eq Array.length_toList)]
      exact Nat.le_refl _
/-- 'throw new E()': new; dup; invokespecial; athrow -/
theorem vx_throw0 {cc : ByteArray} {pc : Nat} (hexec : p.tables.exec = Jvm.exec) (hb : c.code = cc) (hl : l.stackTraces = false) {own cls : String} {names : List String} {ik ic mc ms : Nat} {A : Nat → Prop}
    (hown : s.vm.findClass own = some m.cls) (hcls : Bundle.fit cls = true) (hnames : ∀ n ∈ names, Bundle.fit n = true)
    (hk : (Cond.classLink own ik cls).before args s = true) (hini : (Cond.initialized cls).before args s = true) (hat : ∀ w ∈ vx_at0 own ic cls names, w.before args s = true)
    (hgood : ∀ w ∈ Cond.classLink own ik cls :: Cond.initialized cls :: vx_at0 own ic cls names, vx_ot w = true)
    (hU : vx_Zq Bundle.tN "UNASSIGNED_STACK" Bundle.steD A s s.heap) (hN : vx_Zq Bundle.tN "SUPPRESSED_SENTINEL" Bundle.listD A s s.heap) (hS : va_S A s.heap H locs) (hsize : ls.size = c.maxLocals)
    (d0 : decode cc pc = .ok (.new ik, 3)) (d3 : decode cc (pc + 3) = .ok (.dup, 1)) (d4 : decode cc (pc + 4) = .ok (.invokespecial ic, 3)) (d7 : decode cc (pc + 7) = .ok (.athrow, 1))
    (hout : ∀ x ∈ c.exceptionTable.toList, covers x (pc + 7) = false)
    (hRframes : names.length + 3 < R.frames) (hRlocals : (rest.map fun v => v.category).sum + (13 * (names.length + 1) + 42) ≤ R.locals) (hRcells : cells + 1 ≤ R.cells) (hRslots : slots + 6 ≤ R.slots) (hlocks : meth.locks = false)
    (hx : ∀ t : State, s.vm.Alike t.vm → H.size ≤ t.heap.size → (∀ q : Nat, q < H.size → t.heap[q]? = H[q]?) → XC cls s t)
    (hf : ∀ z ∈ locs, free z.base) (hc : cells + 1 ≤ mc) (hs : slots + 6 ≤ ms) :
    W p l e R s m args below meth c H locs cells slots (vx_MQ below Qc XC args s mc ms free) (F0 m pc ls rest) := by
  intro T hT X
  have htr : e.platform.stackTraces = false := (show e.platform.stackTraces = l.stackTraces by rw [X.admits.platform]).trans hl
  have Y := vx_rebase X (R' := { frames := R.frames, locals := R.locals, cells := 1, slots := 6 }) (Nat.le_refl _) (Nat.le_refl _) hRcells hRslots
  obtain ⟨s', hA⟩ : ∃ z, z = (T.setVm s.vm).setFrames (.invoking m args :: below) := ⟨_, rfl⟩
  rw [← hA] at Y
  have hvm : s'.vm = s.vm := by rw [hA]; rfl
  have hhp : s'.heap = H := by rw [hA]; exact hT
  have hW0 : s.WarmedH s'.vm := by rw [hvm]; exact State.WarmedH.refl s
  have hat' : ∀ w ∈ vx_at0 own ic cls names, w.before args s' = true := fun w hw => vx_ot_at hW0 hvm.symm (hgood w (List.mem_cons_of_mem _ (List.mem_cons_of_mem _ hw))) (hat w hw)
  have hk' : (Cond.classLink own ik cls).before args s' = true := vx_ot_at hW0 hvm.symm (hgood _ List.mem_cons_self) hk
  have hini' : (Cond.initialized cls).before args s' = true := vx_ot_at hW0 hvm.symm (hgood _ (List.mem_cons_of_mem _ List.mem_cons_self)) hini
  have hU' : vx_Zq Bundle.tN "UNASSIGNED_STACK" Bundle.steD A s' s'.heap := by rw [hhp]; exact vx_Zq.moved hW0.alike (hU.kept hS.2.1)
  have hN' : vx_Zq Bundle.tN "SUPPRESSED_SENTINEL" Bundle.listD A s' s'.heap := by rw [hhp]; exact vx_Zq.moved hW0.alike (hN.kept hS.2.1)
  have h : ∀ w ∈ Bundle.ownAtoms0 own ic cls names, w.before args s' = true := vx_own hat' (vx_isRefq hU'.1) (vx_isRefq hN'.1) hU'.2.word hN'.2.word
  have hown' : s'.vm.findClass own = some m.cls := by rw [hvm]; exact hown
  have hins : (Cond.instantiable cls 6).before args s' = true := h _ (by simp [Bundle.ownAtoms0])
  obtain ⟨vm₁, cX, kX, hfX, hkX, -, -, X₁, st1⟩ := Y.newCold hexec (own := own) (C := cls) (index := ik) (n := 6) hown' hk' hins hini'
    (g := F0 m pc ls rest) rfl (by rw [hb]; exact d0) (Nat.le_refl _) (Nat.le_refl _)
  generalize hT1 : (T.setVm vm₁).pushCell { cls := cX, slots := kX.instanceTypes.map defaultValue, vm := .none } = T1 at X₁ st1
  have hcat : (Value.ref T.heap.size).category = 1 := rfl
  have hcellA : T1.heap[T.heap.size]? = some (freshCell cX kX) := by rw [← hT1]; exact State.heap_pushCell_size _ _
  have d3' : decode c.code (pc + 3) = .ok (.dup, 1) := by rw [hb]; exact d3
  obtain ⟨U, hsteps, hrun, hend, hW, hsame, ce, hce, hO⟩ := X₁.ctorThrow0 hexec htr (own := own) (cls := cls) (names := names) (ic := ic) hown' hcls hnames h (fun x hx => nomatch hx) hfX hkX hcellA (by rw [hhp, hT]; exact Nat.le_refl _)
    (g := { method := m, pc := pc + 4, locals := ls, stack := .ref T.heap.size :: .ref T.heap.size :: rest, locked := none }) rfl hsize rfl rfl (rest := rest) rfl
    (by rw [hb]; exact d4) (by rw [hb]; exact d7) hout hRframes (by simp only [List.map_cons, List.sum_cons, hcat]; omega) hlocks
  obtain ⟨f1, f2⟩ := vx_frame hsame
  rw [hhp] at f1 f2
  have hWs : s.WarmedH U.vm := State.WarmedH.trans hW0 hW
  have hcl : s.vm.findClass cls = some ce.cls := by
    have h9 := hO.cls
    rw [hvm] at h9
    exact h9
  have hall : s.sameButNew ({ U with vm := s.vm } : State) locs mc ms := by
    subst hA
    obtain ⟨e1, e2⟩ := hsame
    rw [State.setFrames_setFrames] at e1
    have h2 : (T.setVm s.vm).sameButNew ({ U with vm := s.vm } : State) [] (0 + 1) (0 + 6) := ⟨e1, e2⟩
    have h3 := X.same.trans h2
    rw [List.append_nil] at h3
    exact h3.mono hc hs
  refine ⟨U, ?_, .threw T.heap.size, hrun, hend, Or.inr ⟨T.heap.size, rfl, cls, ce, locs, hx U hWs.alike f1 (fun q hq => f2 q hq (fun z hz => nomatch hz)), hce, hO.vm, hcl, hWs, hall, hf⟩⟩
  refine st1 _ ?_
  show Steps p.tables e below (T1.setTop { method := m, pc := pc + 3, locals := ls, stack := .ref T.heap.size :: rest, locked := none }) _
  jvm_step X₁.here [X₁.here.top, hexec, d3', Value.category]
  exact hsteps
/-- 'throw new E("text")': new; dup; ldc; invokespecial; athrow -/
theorem vx_throwS {cc : ByteArray} {pc : Nat} (hexec : p.tables.exec = Jvm.exec) (hb : c.code = cc) (hl : l.stackTraces = false) {own cls text : String} {names : List String} {ik is ic mc ms sa : Nat} {A : Nat → Prop}
    (hown : s.vm.findClass own = some m.cls) (hcls : Bundle.fit cls = true) (hnames : ∀ n ∈ names, Bundle.fit n = true)
    (hk : (Cond.classLink own ik cls).before args s = true) (hini : (Cond.initialized cls).before args s = true) (hstr : vk_R own is text sa s) (hat : ∀ w ∈ vx_atS own ic cls names, w.before args s = true)
    (hgood : ∀ w ∈ Cond.classLink own ik cls :: Cond.initialized cls :: vx_atS own ic cls names, vx_ot w = true)
    (hU : vx_Zq Bundle.tN "UNASSIGNED_STACK" Bundle.steD A s s.heap) (hN : vx_Zq Bundle.tN "SUPPRESSED_SENTINEL" Bundle.listD A s s.heap) (hS : va_S A s.heap H locs) (hsize : ls.size = c.maxLocals)
    (d0 : decode cc pc = .ok (.new ik, 3)) (d3 : decode cc (pc + 3) = .ok (.dup, 1)) (d4 : decode cc (pc + 4) = .ok (.ldc is, 2)) (d6 : decode cc (pc + 6) = .ok (.invokespecial ic, 3)) (d9 : decode cc (pc + 9) = .ok (.athrow, 1))
    (hout : ∀ x ∈ c.exceptionTable.toList, covers x (pc + 9) = false)
    (hRframes : names.length + 3 < R.frames) (hRlocals : (rest.map fun v => v.category).sum + (13 * (names.length + 1) + 43) ≤ R.locals) (hRcells : cells + 1 ≤ R.cells) (hRslots : slots + 6 ≤ R.slots) (hlocks : meth.locks = false)
    (hx : ∀ t : State, s.vm.Alike t.vm → H.size ≤ t.heap.size → (∀ q : Nat, q < H.size → t.heap[q]? = H[q]?) → XC cls s t)
    (hf : ∀ z ∈ locs, free z.base) (hc : cells + 1 ≤ mc) (hs : slots + 6 ≤ ms) :
    W p l e R s m args below meth c H locs cells slots (vx_MQ below Qc XC args s mc ms free) (F0 m pc ls rest) := by
  intro T hT X
  have htr : e.platform.stackTraces = false := (show e.platform.stackTraces = l.stackTraces by rw [X.admits.platform]).trans hl
  have Y := vx_rebase X (R' := { frames := R.frames, locals := R.locals, cells := 1, slots := 6 }) (Nat.le_refl _) (Nat.le_refl _) hRcells hRslots
  obtain ⟨s', hA⟩ : ∃ z, z = (T.setVm s.vm).setFrames (.invoking m args :: below) := ⟨_, rfl⟩
  rw [← hA] at Y
  have hvm : s'.vm = s.vm := by rw [hA]; rfl
  have hhp : s'.heap = H := by rw [hA]; exact hT
  have hW0 : s.WarmedH s'.vm := by rw [hvm]; exact State.WarmedH.refl s
  have hat' : ∀ w ∈ vx_atS own ic cls names, w.before args s' = true := fun w hw => vx_ot_at hW0 hvm.symm (hgood w (List.mem_cons_of_mem _ (List.mem_cons_of_mem _ hw))) (hat w hw)
  have hk' : (Cond.classLink own ik cls).before args s' = true := vx_ot_at hW0 hvm.symm (hgood _ List.mem_cons_self) hk
  have hini' : (Cond.initialized cls).before args s' = true := vx_ot_at hW0 hvm.symm (hgood _ (List.mem_cons_of_mem _ List.mem_cons_self)) hini
  have hU' : vx_Zq Bundle.tN "UNASSIGNED_STACK" Bundle.steD A s' s'.heap := by rw [hhp]; exact vx_Zq.moved hW0.alike (hU.kept hS.2.1)
  have hN' : vx_Zq Bundle.tN "SUPPRESSED_SENTINEL" Bundle.listD A s' s'.heap := by rw [hhp]; exact vx_Zq.moved hW0.alike (hN.kept hS.2.1)
  have h : ∀ w ∈ Bundle.ownAtoms own ic cls names, w.before args s' = true := vx_own hat' (vx_isRefq hU'.1) (vx_isRefq hN'.1) hU'.2.word hN'.2.word
  have hown' : s'.vm.findClass own = some m.cls := by rw [hvm]; exact hown
  have hins : (Cond.instantiable cls 6).before args s' = true := h _ (by simp [Bundle.ownAtoms])
  obtain ⟨vm₁, cX, kX, hfX, hkX, -, -, X₁, st1⟩ := Y.newCold hexec (own := own) (C := cls) (index := ik) (n := 6) hown' hk' hins hini'
    (g := F0 m pc ls rest) rfl (by rw [hb]; exact d0) (Nat.le_refl _) (Nat.le_refl _)
  generalize hT1 : (T.setVm vm₁).pushCell { cls := cX, slots := kX.instanceTypes.map defaultValue, vm := .none } = T1 at X₁ st1
  have hcat : (Value.ref T.heap.size).category = 1 := rfl
  have hcellA : T1.heap[T.heap.size]? = some (freshCell cX kX) := by rw [← hT1]; exact State.heap_pushCell_size _ _
  have d3' : decode c.code (pc + 3) = .ok (.dup, 1) := by rw [hb]; exact d3
  have d4' : decode c.code (pc + 4) = .ok (.ldc is, 2) := by rw [hb]; exact d4
  have hstr' : vk_R own is text sa s' := vk_R.warm hW0 hstr
  obtain ⟨U, hsteps, hrun, hend, hW, hsame, ce, hce, hO⟩ := X₁.ctorThrowS hexec htr (own := own) (cls := cls) (names := names) (ic := ic) hown' hcls hnames h (fun x hx => nomatch hx) hfX hkX hcellA (by rw [hhp, hT]; exact Nat.le_refl _) (msg := .ref sa) rfl
    (g := { method := m, pc := pc + 6, locals := ls, stack := .ref sa :: .ref T.heap.size :: .ref T.heap.size :: rest, locked := none }) rfl hsize rfl rfl (rest := rest) rfl
    (by rw [hb]; exact d6) (by rw [hb]; exact d9) hout hRframes (by simp only [List.map_cons, List.sum_cons, hcat]; omega) hlocks
  obtain ⟨f1, f2⟩ := vx_frame hsame
  rw [hhp] at f1 f2
  have hWs : s.WarmedH U.vm := State.WarmedH.trans hW0 hW
  have hcl : s.vm.findClass cls = some ce.cls := by
    have h9 := hO.cls
    rw [hvm] at h9
    exact h9
  have hall : s.sameButNew ({ U with vm := s.vm } : State) locs mc ms := by
    subst hA
    obtain ⟨e1, e2⟩ := hsame
    rw [State.setFrames_setFrames] at e1
    have h2 : (T.setVm s.vm).sameButNew ({ U with vm := s.vm } : State) [] (0 + 1) (0 + 6) := ⟨e1, e2⟩
    have h3 := X.same.trans h2
    rw [List.append_nil] at h3
    exact h3.mono hc hs
  refine ⟨U, ?_, .threw T.heap.size, hrun, hend, Or.inr ⟨T.heap.size, rfl, cls, ce, locs, hx U hWs.alike f1 (fun q hq => f2 q hq (fun z hz => nomatch hz)), hce, hO.vm, hcl, hWs, hall, hf⟩⟩
  refine st1 _ ?_
  show Steps p.tables e below (T1.setTop { method := m, pc := pc + 3, locals := ls, stack := .ref T.heap.size :: rest, locked := none }) _
  jvm_step X₁.here [X₁.here.top, hexec, d3', Value.category]
  exact X₁.ldcString hexec (own := own) (text := text) (index := is) (a := sa) hown' hstr'.1 hstr'.2
    (g := { method := m, pc := pc + 4, locals := ls, stack := .ref T.heap.size :: .ref T.heap.size :: rest, locked := none }) rfl d4' _ hsteps
/-- 'throw new E("text")', the text by a wide index -/
theorem vx_throwSW {cc : ByteArray} {pc : Nat} (hexec : p.tables.exec = Jvm.exec) (hb : c.code = cc) (hl : l.stackTraces = false) {own cls text : String} {names : List String} {ik is ic mc ms sa : Nat} {A : Nat → Prop}
    (hown : s.vm.findClass own = some m.cls) (hcls : Bundle.fit cls = true) (hnames : ∀ n ∈ names, Bundle.fit n = true)
    (hk : (Cond.classLink own ik cls).before args s = true) (hini : (Cond.initialized cls).before args s = true) (hstr : vk_R own is text sa s) (hat : ∀ w ∈ vx_atS own ic cls names, w.before args s = true)
    (hgood : ∀ w ∈ Cond.classLink own ik cls :: Cond.initialized cls :: vx_atS own ic cls names, vx_ot w = true)
    (hU : vx_Zq Bundle.tN "UNASSIGNED_STACK" Bundle.steD A s s.heap) (hN : vx_Zq Bundle.tN "SUPPRESSED_SENTINEL" Bundle.listD A s s.heap) (hS : va_S A s.heap H locs) (hsize : ls.size = c.maxLocals)
    (d0 : decode cc pc = .ok (.new ik, 3)) (d3 : decode cc (pc + 3) = .ok (.dup, 1)) (d4 : decode cc (pc + 4) = .ok (.ldc_w is, 3)) (d7 : decode cc (pc + 7) = .ok (.invokespecial ic, 3)) (d10 : decode cc (pc + 10) = .ok (.athrow, 1))
    (hout : ∀ x ∈ c.exceptionTable.toList, covers x (pc + 10) = false)
    (hRframes : names.length + 3 < R.frames) (hRlocals : (rest.map fun v => v.category).sum + (13 * (names.length + 1) + 43) ≤ R.locals) (hRcells : cells + 1 ≤ R.cells) (hRslots : slots + 6 ≤ R.slots) (hlocks : meth.locks = false)
    (hx : ∀ t : State, s.vm.Alike t.vm → H.size ≤ t.heap.size → (∀ q : Nat, q < H.size → t.heap[q]? = H[q]?) → XC cls s t)
    (hf : ∀ z ∈ locs, free z.base) (hc : cells + 1 ≤ mc) (hs : slots + 6 ≤ ms) :
    W p l e R s m args below meth c H locs cells slots (vx_MQ below Qc XC args s mc ms free) (F0 m pc ls rest) := by
  intro T hT X
  have htr : e.platform.stackTraces = false := (show e.platform.stackTraces = l.stackTraces by rw [X.admits.platform]).trans hl
  have Y := vx_rebase X (R' := { frames := R.frames, locals := R.locals, cells := 1, slots := 6 }) (Nat.le_refl _) (Nat.le_refl _) hRcells hRslots
  obtain ⟨s', hA⟩ : ∃ z, z = (T.setVm s.vm).setFrames (.invoking m args :: below) := ⟨_, rfl⟩
  rw [← hA] at Y
  have hvm : s'.vm = s.vm := by rw [hA]; rfl
  have hhp : s'.heap = H := by rw [hA]; exact hT
  have hW0 : s.WarmedH s'.vm := by rw [hvm]; exact State.WarmedH.refl s
  have hat' : ∀ w ∈ vx_atS own ic cls names, w.before args s' = true := fun w hw => vx_ot_at hW0 hvm.symm (hgood w (List.mem_cons_of_mem _ (List.mem_cons_of_mem _ hw))) (hat w hw)
  have hk' : (Cond.classLink own ik cls).before args s' = true := vx_ot_at hW0 hvm.symm (hgood _ List.mem_cons_self) hk
  have hini' : (Cond.initialized cls).before args s' = true := vx_ot_at hW0 hvm.symm (hgood _ (List.mem_cons_of_mem _ List.mem_cons_self)) hini
  have hU' : vx_Zq Bundle.tN "UNASSIGNED_STACK" Bundle.steD A s' s'.heap := by rw [hhp]; exact vx_Zq.moved hW0.alike (hU.kept hS.2.1)
  have hN' : vx_Zq Bundle.tN "SUPPRESSED_SENTINEL" Bundle.listD A s' s'.heap := by rw [hhp]; exact vx_Zq.moved hW0.alike (hN.kept hS.2.1)
  have h : ∀ w ∈ Bundle.ownAtoms own ic cls names, w.before args s' = true := vx_own hat' (vx_isRefq hU'.1) (vx_isRefq hN'.1) hU'.2.word hN'.2.word
  have hown' : s'.vm.findClass own = some m.cls := by rw [hvm]; exact hown
  have hins : (Cond.instantiable cls 6).before args s' = true := h _ (by simp [Bundle.ownAtoms])
  obtain ⟨vm₁, cX, kX, hfX, hkX, -, -, X₁, st1⟩ := Y.newCold hexec (own := own) (C := cls) (index := ik) (n := 6) hown' hk' hins hini'
    (g := F0 m pc ls rest) rfl (by rw [hb]; exact d0) (Nat.le_refl _) (Nat.le_refl _)
  generalize hT1 : (T.setVm vm₁).pushCell { cls := cX, slots := kX.instanceTypes.map defaultValue, vm := .none } = T1 at X₁ st1
  have hcat : (Value.ref T.heap.size).category = 1 := rfl
  have hcellA : T1.heap[T.heap.size]? = some (freshCell cX kX) := by rw [← hT1]; exact State.heap_pushCell_size _ _
  have d3' : decode c.code (pc + 3) = .ok (.dup, 1) := by rw [hb]; exact d3
  have d4' : decode c.code (pc + 4) = .ok (.ldc_w is, 3) := by rw [hb]; exact d4
  have hstr' : vk_R own is text sa s' := vk_R.warm hW0 hstr
  obtain ⟨U, hsteps, hrun, hend, hW, hsame, ce, hce, hO⟩ := X₁.ctorThrowS hexec htr (own := own) (cls := cls) (names := names) (ic := ic) hown' hcls hnames h (fun x hx => nomatch hx) hfX hkX hcellA (by rw [hhp, hT]; exact Nat.le_refl _) (msg := .ref sa) rfl
    (g := { method := m, pc := pc + 7, locals := ls, stack := .ref sa :: .ref T.heap.size :: .ref T.heap.size :: rest, locked := none }) rfl hsize rfl rfl (rest := rest) rfl
    (by rw [hb]; exact d7) (by rw [hb]; exact d10) hout hRframes (by simp only [List.map_cons, List.sum_cons, hcat]; omega) hlocks
  obtain ⟨f1, f2⟩ := vx_frame hsame
  rw [hhp] at f1 f2
  have hWs : s.WarmedH U.vm := State.WarmedH.trans hW0 hW
  have hcl : s.vm.findClass cls = some ce.cls := by
    have h9 := hO.cls
    rw [hvm] at h9
    exact h9
  have hall : s.sameButNew ({ U with vm := s.vm } : State) locs mc ms := by
    subst hA
    obtain ⟨e1, e2⟩ := hsame
    rw [State.setFrames_setFrames] at e1
    have h2 : (T.setVm s.vm).sameButNew ({ U with vm := s.vm } : State) [] (0 + 1) (0 + 6) := ⟨e1, e2⟩
    have h3 := X.same.trans h2
    rw [List.append_nil] at h3
    exact h3.mono hc hs
  refine ⟨U, ?_, .threw T.heap.size, hrun, hend, Or.inr ⟨T.heap.size, rfl, cls, ce, locs, hx U hWs.alike f1 (fun q hq => f2 q hq (fun z hz => nomatch hz)), hce, hO.vm, hcl, hWs, hall, hf⟩⟩
  refine st1 _ ?_
  show Steps p.tables e below (T1.setTop { method := m, pc := pc + 3, locals := ls, stack := .ref T.heap.size :: rest, locked := none }) _
  jvm_step X₁.here [X₁.here.top, hexec, d3', Value.category]
  exact X₁.ldcStringW hexec (own := own) (text := text) (index := is) (a := sa) hown' hstr'.1 hstr'.2
    (g := { method := m, pc := pc + 4, locals := ls, stack := .ref T.heap.size :: .ref T.heap.size :: rest, locked := none }) rfl d4' _ hsteps
end Ends
section Bodies
variable {l : Launch}
theorem vx_ofW {y : MethodName} {ws ws' : List Cond} {rm : Room} {Pc : Array Value → State → Prop} {Qc : Array Value → State → Outcome → State → Prop} {XC : String → State → State → Prop} {mc ms : Nat} {free : Addr → Prop} {cc : ByteArray} {maxL : Nat} {ret : Option FieldType}
    (hy : plainName y.cls = true) (hw : ws = Cond.code y cc maxL ret :: ws')
    (body : ∀ p e s m args below meth c s₁, BodyLoose p l y (headSpec ws rm) cc maxL ret e s m args below meth c s₁ → c.maxLocals = maxL → (∀ x ∈ c.exceptionTable.toList, False) → Pc args s →
      W p l e (headSpec ws rm).room s m args below meth c s.heap [] 0 0 (vx_MQ below Qc XC args s mc ms free) (entryFrame m args maxL)) : vx_Met l y ws rm Pc Qc XC mc ms free := by
  refine MetFree.of_bodyS (code := cc) (maxLocals := maxL) (ret := ret) hy ?_ ?_
  · intro args s m h hn
    obtain ⟨meth, c, h1, h2, h3, h4, h5, h6, -, -⟩ := Cond.code_spec hn (atoms_spec (ws := ws) h _ (by rw [hw]; exact List.mem_cons_self))
    exact ⟨meth, c, h1, h2, h3, h4, h5, h6⟩
  · intro p e s m args below meth c s₁ B hml hP _
    have hh0 : s₁.heap = s.heap := by rw [B.state]; rfl
    have ht : ∀ x ∈ c.exceptionTable.toList, False := by
      obtain ⟨meth9, c9, h1, h2, -, -, -, -, h7, -⟩ := Cond.code_spec B.named (atoms_spec (ws := ws) B.pre _ (by rw [hw]; exact List.mem_cons_self))
      cases Option.some.inj (h1.symm.trans B.method)
      cases Option.some.inj (h2.symm.trans (Stand.of_body B).code)
      intro x hx
      rw [Array.isEmpty_iff.mp h7] at hx
      cases hx
    obtain ⟨t, a1, o, b1, b2, b3⟩ := body p e s m args below meth c s₁ B hml ht hP s₁ hh0 (Stand.of_body B)
    exact ⟨t, o, a1, b1, b2, b3⟩
/-- the table of a body with handlers -/
theorem vx_table {p : Program} {x y : MethodName} {S : Spec} {cc bytes : ByteArray} {maxL maxL' : Nat} {ret ret' : Option FieldType} {e : Env} {s s₁ : State} {m : MethodId} {args : Array Value} {below : List Frame} {meth : Method} {c : Code} {hh : List (Nat × Nat × Nat × Nat)}
    (B : BodyLoose p l y S cc maxL ret e s m args below meth c s₁) (h : (Cond.codeWith y bytes maxL' ret' hh).before args s = true) : c.exceptionTable.toList = tableOf hh := by
  obtain ⟨m9, meth9, c9, hn9, h1, h2, -, -, h6, -⟩ := Cond.codeWith_spec h
  cases Option.some.inj (hn9.symm.trans B.named)
  cases Option.some.inj (h1.symm.trans B.method)
  cases Option.some.inj (h2.symm.trans (Stand.of_body B).code)
  rw [← h6, table_eq]
end Bodies
end VXA
/-! ===== END ===== -/
/-! ===== BEGIN a static call of a method with an exception table ===== -/
section VXS
variable {p : Program} {l : Launch} {e : Env} {R : Room} {s : State} {m : MethodId} {args : Array Value} {below : List Frame} {meth : Method} {c : Code} {T : State} {H : Heap} {locs : List Loc} {cells slots : Nat}
abbrev vx_CSW (R : Room) (s : State) (args : Array Value) (own : String) (index : Nat) (y : MethodName) (bytes : ByteArray) (maxL : Nat) (ret : Option FieldType) (hh : List (Nat × Nat × Nat × Nat)) (ws : List Cond) (rm : Room) (mc ms n : Nat) : Prop :=
  (rm.cells = mc ∧ rm.slots = ms ∧ rm.frames + 1 ≤ R.frames ∧ 8 + (maxL + 11) + rm.locals ≤ R.locals ∧ (∀ w ∈ ws, ∀ (a' : Array Value) (U : State), s.WarmedH U.vm → w.before a' U = true) ∧ Cond.codeWith y bytes maxL ret hh ∈ ws) ∧
  (Cond.codeWith y bytes maxL ret hh).before args s = true ∧ (Cond.initialized y.cls).before args s = true ∧ (y.cls ≠ "java/lang/invoke/MethodHandle" ∧ y.cls ≠ "java/lang/invoke/VarHandle") ∧
  (∀ sig, parseMethodDescriptor y.desc = some sig → n = sig.parameters.length) ∧ (Cond.methodLink own index y).before args s = true ∧ (Cond.static y).before args s = true
theorem vx_cwSW {own : String} {index maxL mc ms : Nat} {y : MethodName} {bytes : ByteArray} {ret : Option FieldType} {hh : List (Nat × Nat × Nat × Nat)} {Ts ws ws' : List Cond} {rm : Room} (n : Nat) (ht : ∀ w ∈ Ts, w.before args s = true) (hT : GoodIn Ts (va_wsS own index y ws)) (hw : ws = Cond.codeWith y bytes maxL ret hh :: ws') (hrc : rm.cells = mc) (hrs : rm.slots = ms)
    (hd : y.cls ≠ "java/lang/invoke/MethodHandle" ∧ y.cls ≠ "java/lang/invoke/VarHandle" ∧ (parseMethodDescriptor y.desc).map (fun d => d.parameters.length) = some n) (hR : rm.frames + 1 ≤ R.frames ∧ 8 + (maxL + 11) + rm.locals ≤ R.locals) :
    vx_CSW R s args own index y bytes maxL ret hh ws rm mc ms n := by
  have ok : ∀ w ∈ va_wsS own index y ws, w.before args s = true := fun w h => ht w (hT w h).1
  have hG : GoodIn Ts ws := fun w h => hT w (by unfold va_wsS; exact List.mem_append_right _ h)
  have hc : Cond.codeWith y bytes maxL ret hh ∈ ws := by rw [hw]; exact List.mem_cons_self
  refine ⟨⟨hrc, hrs, hR.1, hR.2, pay_in ht hG, hc⟩, ht _ (hG _ hc).1, ok _ (by simp [va_wsS]), ⟨hd.1, hd.2.1⟩, fun sig h => ?_, ok _ (by simp [va_wsS]), ok _ (by simp [va_wsS])⟩
  have h2 := hd.2.2
  rw [h] at h2
  exact (Option.some.inj h2).symm
theorem vx_callSW (X : Stand p l e R s m args below meth c T locs cells slots) (hexec : p.tables.exec = Jvm.exec) {own : String} {index : Nat} {y : MethodName} {bytes : ByteArray} {maxL : Nat} {ret : Option FieldType} {hh : List (Nat × Nat × Nat × Nat)}
    (hown : s.vm.findClass own = some m.cls) (hlink : (Cond.methodLink own index y).before args s = true) (hstat : (Cond.static y).before args s = true) (hinit : (Cond.initialized y.cls).before args s = true)
    (hcode : (Cond.codeWith y bytes maxL ret hh).before args s = true) (hy : y.cls ≠ "java/lang/invoke/MethodHandle" ∧ y.cls ≠ "java/lang/invoke/VarHandle")
    {W9 : Nat} {Pre : Pt → Array Value → Prop} {Post : Pt → Array Value → Option Value → Pt → Prop} (hK : Back l R p e below s args y 3 W9 Pre Post)
    {g : JFrame} (hg : g.method = m) (hsize : g.locals.size = c.maxLocals) {argsL rest : List Value} (hlen : ∀ sig, parseMethodDescriptor y.desc = some sig → argsL.length = sig.parameters.length)
    (hstack : g.stack = argsL.reverse ++ rest) (hW : 2 * g.monitorRoom + (rest.map fun v => v.category).sum ≤ W9) (hdg : decode c.code g.pc = .ok (.invokestatic index, 3))
    (hpre : ∀ vm₁, s.WarmedH vm₁ → Pre ⟨T.setVm vm₁, locs, cells, slots⟩ argsL.toArray) :
    ∃ (v : Option Value) (vm₁ : Vm) (B : Pt), s.WarmedH vm₁ ∧ Stand p l e R s m args below meth c B.U B.locs B.cells B.slots ∧ Post ⟨T.setVm vm₁, locs, cells, slots⟩ argsL.toArray v B ∧
      ∀ target, Steps p.tables e below (B.U.setTop { g with pc := g.pc + 3, stack := v.toList ++ rest }) target → Steps p.tables e below (T.setTop g) target := by
  obtain ⟨mk, methM, cM, hnamed, hmethM, -, -, -, -, -, -, hsigM⟩ := Cond.codeWith_spec hcode
  have hstatic : methM.isStatic = true := Cond.static_spec hnamed hmethM hstat
  obtain ⟨kP, hkP, -⟩ := className_of_methodNamed hnamed
  have hinitP : kP.init = .initialized := Cond.initialized_spec (findClass_of_methodNamed hnamed) hkP hinit
  obtain ⟨vm₁, X₁, hstep₁⟩ := X.invokestatic hexec hown hlink hnamed hmethM hstatic hkP hinitP hy (g := g) hg (argsL := argsL) (rest := rest) (hlen _ hsigM) hstack hdg
  obtain ⟨v, B, X', hpost, hsteps⟩ := hK m meth c ⟨T.setVm vm₁, locs, cells, slots⟩ { g with stack := rest } (.invokestatic index) mk argsL.toArray X₁ hg hsize hdg hW (X₁.named hnamed) (hpre vm₁ X₁.warmed)
  exact ⟨v, vm₁, B, X₁.warmed, X', hpost, fun target h => hstep₁ _ fun acts => by rw [doInvoke_state]; exact hsteps.trans h⟩
theorem vx_runSW {y : MethodName} {bytes cc : ByteArray} {maxL nL mc ms n index : Nat} {ret : Option FieldType} {hh : List (Nat × Nat × Nat × Nat)} {ws : List Cond} {rm : Room} {Pc : Array Value → State → Prop} {Qc : Array Value → State → Outcome → State → Prop} {free : Addr → Prop} {Ts : List Cond} {own : String} {As rest : List Value} {g : JFrame}
    (S : CallFix p m c cc nL s args Ts own) (hM : Met l y ws rm Pc Qc mc ms free) (cw : vx_CSW R s args own index y bytes maxL ret hh ws rm mc ms n) (hp : PreS s H Pc As)
    (hg : g.method = m) (hn : As.length = n) (hsize : g.locals.size = nL) (hstack : g.stack = As.reverse ++ rest) (hW : 2 * g.monitorRoom + (rest.map fun v => v.category).sum ≤ 8) (hdg : decode cc g.pc = .ok (.invokestatic index, 3)) (hf : cells + mc ≤ R.cells ∧ slots + ms ≤ R.slots) :
    va_Run p l e R s m args below meth c H locs cells slots mc ms g rest (Qc As.toArray) (free) := by
  obtain ⟨⟨hrc, hrs, hfr, hlo, hws, hcw⟩, hcode, hini, hy, hlen, hl, hstt⟩ := cw
  have hK : Back l R p e below s args y 3 8 (PreOf R mc ms Pc) (PostOf Qc mc ms free) := va_backW (hh := hh) (bytes := bytes) (maxL := maxL) (ret := ret) hM hp.1 hrc hrs hfr hlo hws hcw (fun a' U hW => word_at hW (Or.inl (by first | rfl | simp [Cond.onTables, Cond.keeps, Cond.steady])) hini)
  obtain ⟨hx, hb, hml, ho, -⟩ := S
  intro T hT X
  obtain ⟨v, vm₁, ⟨U', l2, c2, s2⟩, hW₁, X', ⟨g', mk, t, L, e1, e2, hq, h1, hL, h2, h3⟩, st⟩ := vx_callSW X hx (hh := hh) (bytes := bytes) (maxL := maxL) (ret := ret) ho hl hstt hini hcode hy hK hg (hsize.trans hml.symm) (argsL := As) (rest := rest) (fun sig h => hn.trans (hlen sig h)) hstack hW (by rw [hb]; exact hdg)
    (fun vm₁ hW₁ => ⟨hf.1, hf.2, hp.2 (T.setVm vm₁) hT hW₁⟩)
  dsimp only [Pt.U, Pt.locs, Pt.cells, Pt.slots] at X' e1 e2 h1 h2 h3 st
  subst h1; subst h2; subst h3
  exact ⟨v, (T.setVm vm₁).calling g' mk As.toArray, t, U', L, hT, X', hL, e1, e2, hq, st⟩
/-- not caught here, past rows that name other classes: it goes on to the caller -/
theorem vx_outP {p : Program} {l : Launch} {e : Env} {R : Room} {s : State} {m : MethodId} {args : Array Value} {below : List Frame} {meth : Method} {c : Code} {H : Heap} {locs : List Loc} {cells slots : Nat} {free : Addr → Prop} {ls : Array Slot} {rest : List Value} {Qc : Array Value → State → Outcome → State → Prop} {XC : String → State → State → Prop}
    {pc : Nat} {own E : String} {ce : Cell} {q : Addr} {mc ms : Nat} (hown : s.vm.findClass own = some m.cls) (hlocks : meth.locks = false)
    (hpass : ∀ z ∈ c.exceptionTable.toList, covers z pc = false ∨ (z.catchType ≠ 0 ∧ ∃ nm : String, (Cond.classLink own z.catchType nm).before args s = true ∧ va_Nc E nm s)) (hcell : H[q]? = some ce) (hv : ce.vm = .none) (hcl : s.vm.findClass E = some ce.cls)
    (hx : ∀ t : State, t.heap = H → s.vm.Alike t.vm → XC E s t) (hf : ∀ z ∈ locs, free z.base) (hc : cells ≤ mc) (hs : slots ≤ ms) :
    vx_W p l e R s m args below meth c H locs cells slots (vx_MQ below Qc XC args s mc ms free) (F0 m pc ls rest) q := by
  intro T hT X
  have hpl : e.platform.magicAccessors = ({} : Platform).magicAccessors := by rw [X.admits.platform]
  obtain ⟨vm', hW', X', st⟩ := X.outThrough hlocks q (g := F0 m pc ls rest) rfl rfl rfl (cell := ce) (by rw [hT]; exact hcell) (by rw [hv]; rfl)
    (by obtain ⟨k9, h9, -⟩ := Vm.findClass_spec hcl; exact ⟨k9, h9⟩) (fun z hz => by
      rcases hpass z hz with h | ⟨hz0, nm, hl1, hn1⟩
      · exact Or.inl h
      · obtain ⟨c6, hc6, hcl6⟩ := Cond.classLink_spec hown hl1 e.platform hpl
        obtain ⟨a8, b8, h1, h2, h3⟩ := hn1
        cases Option.some.inj (h1.symm.trans hcl)
        cases Option.some.inj (h2.symm.trans hc6)
        exact Or.inr ⟨hz0, _, hcl6, h3⟩)
  obtain ⟨g₀, hfr⟩ := X'.frames_eq
  have hcell9 : ((T.setVm vm').setFrames (.throwing q :: below)).heap[q]? = some ce := by
    show T.heap[q]? = some ce
    rw [hT]; exact hcell
  have hend : Ended ((T.setVm vm').setFrames (.throwing q :: below)) below (.threw q) := State.frames_setFrames _ (State.cur_lt_of_frames hfr)
  refine ⟨(T.setVm vm').setFrames (.throwing q :: below), ?_, .threw q, X'.here.running, hend, Or.inr ⟨q, rfl, E, ce, locs, hx _ hT (X'.ends _).1.alike, hcell9, hv, hcl, (X'.ends _).1, (X'.ends _).2.mono hc hs, hf⟩⟩
  rw [X.pushThrowing_eq]
  exact st
/-- a thing of a world lies in the heap -/
theorem vx_lt {D : va_G} {cl : List vw_C} {ws : va_W} {H1 : Heap} (h : va_P D cl ws H1) {k : Nat} {q : Nat × va_E} (hk : ws[k]? = some q) : q.1 < H1.size := (h k q hk).lt
end VXS
/-! ===== END ===== -/
/-! ===== BEGIN methods with a table of their own: called by a name, returning or throwing ===== -/
section VXH
/-! vx_backW, vx_callVX, vx_callSX, vx_callVW, vx_runVW, vx_runVX, vx_runSX, vx_ofWH follow the same proofs as their sisters above (Free/Laws.lean, Shelf42/LK1.lean); vx_outP calls Shelf42/NT130.lean (outThrough). -/
section
variable {l : Launch} {R : Room} {p : Program} {e : Env} {below : List Frame} {s : State} {sargs : Array Value} {y : MethodName} {len W9 : Nat}
theorem vx_backW {ws : List Cond} {rm : Room} {Pc : Array Value → State → Prop} {Qc : Array Value → State → Outcome → State → Prop} {XC : String → State → State → Prop} {mc ms : Nat} {free : Addr → Prop} {bytes : ByteArray} {maxL : Nat} {ret : Option FieldType} {hh : List (Nat × Nat × Nat × Nat)}
    (hM : vx_Met l y ws rm Pc Qc XC mc ms free) (hblind : FrameBlind Pc) (hrc : rm.cells = mc) (hrs : rm.slots = ms)
    (hframes : rm.frames + 1 ≤ R.frames) (hlocals : W9 + (maxL + 11) + rm.locals ≤ R.locals)
    (hws : ∀ w ∈ ws, ∀ a' U, s.WarmedH U.vm → w.before a' U = true) (hcode : Cond.codeWith y bytes maxL ret hh ∈ ws) (hinit : ∀ a' U, s.WarmedH U.vm → (Cond.initialized y.cls).before a' U = true) :
    vx_Back l R p e below s sargs y len W9 (PreOf R mc ms Pc) (PostOf Qc mc ms free) (vx_Post XC mc ms free) := by
  intro m meth c A g ig mk a X hg hsize hdg hW hn hp
  have h1 : (headSpec ws rm).pre.before a A.U = true := atoms_intro fun w hw => hws w hw _ _ X.warmed
  have h2 : (Cond.codeWith y bytes maxL ret hh).before a A.U = true := hws _ hcode _ _ X.warmed
  have h3 : (Cond.initialized y.cls).before a A.U = true := hinit _ _ X.warmed
  have h4 : A.cells + (headSpec ws rm).room.cells ≤ R.cells := by rw [show (headSpec ws rm).room.cells = mc from hrc]; exact hp.1
  have h5 : A.slots + (headSpec ws rm).room.slots ≤ R.slots := by rw [show (headSpec ws rm).room.slots = ms from hrs]; exact hp.2.1
  have hPc : Pc a (A.U.calling g mk a) := hblind _ _ _ _ hp.2.2
  obtain ⟨U, Ls, c0, s0⟩ := A
  dsimp only [Pt.U, Pt.locs, Pt.cells, Pt.slots] at h1 h2 h3 h4 h5 X hn hPc ⊢
  obtain ⟨m9, methY, cY, hn9, hmY, hcY, -, hlY, -⟩ := Cond.codeWith_spec h2
  cases Option.some.inj (hn9.symm.trans hn)
  obtain ⟨kY, hkY, -⟩ := className_of_methodNamed hn
  have hinitY : kY.init = .initialized := Cond.initialized_spec (findClass_of_methodNamed hn) hkY h3
  have h : At U g.method c below := by rw [hg]; exact X.here
  have hlocals9 : W9 + (maxL + 11) + (headSpec ws rm).room.locals ≤ R.locals := hlocals
  have happ : (headSpec ws rm).appliesLoose y e.platform (U.calling g mk a) = true :=
    Spec.appliesLoose_calling (g := g) h hdg hn hkY hinitY
      (X.room_calling (g := g) (R' := (headSpec ws rm).room) hsize hmY hcY hframes (by rw [hlY]; omega) h4 h5) h1
  obtain ⟨mid, hmid⟩ := h.above
  have hfr : (U.setTop g).frames = (.java g :: mid) ++ below := by rw [State.frames_setTop' g h.top, hmid]; rfl
  obtain ⟨o, s₂, hsteps, -, hend, hq⟩ := Steps.callFree hM p X.admits X.cas X.clock (acts := []) hfr happ hPc trivial
  have hq' : vx_Q Qc XC mc ms free a (U.calling g mk a) o s₂ := hq
  rw [State.frames_setTop' g h.top] at hend
  obtain ⟨g₀, hg0⟩ := Option.isSome_iff_exists.mp h.top
  obtain ⟨r, hr⟩ := State.topJava?_eq_some.mp hg0
  have hr' : (({ U with heap := s₂.heap, slotsUsed := s₂.slotsUsed } : State).setVm s₂.vm).frames = .java g₀ :: r := hr
  rcases hq' with ⟨hqc, L, hfe, hL⟩ | ⟨q, rfl, E, ce, L, hx, hce, hcv, hcl, hW₂, hsm, hL⟩
  · obtain ⟨⟨v, rfl⟩, hW₂, e2, q2, q3, q4, q5, q6⟩ := id hfe
    have e3 : s₂ = ({ (U.calling g mk a).setFrames s₂.frames with heap := s₂.heap, slotsUsed := s₂.slotsUsed } : State).setVm s₂.vm := by
      have : s₂ = ({ s₂ with vm := (U.calling g mk a).vm } : State).setVm s₂.vm := rfl
      rw [e2] at this
      exact this
    obtain ⟨c₂, i₂, len₂, hc₂, hd₂, hf₂⟩ := hend
    have hW' : U.WarmedH s₂.vm := hW₂
    have hcc : c₂ = c := by
      have h1 : s₂.code? g.method = U.code? g.method := by
        rw [State.code?_eq, State.code?_eq, hW'.alike.method?]
      exact Option.some.inj (hc₂.symm.trans (h1.trans h.code))
    subst hcc
    have hlen : len₂ = len := by rw [hdg] at hd₂; cases hd₂; rfl
    subst hlen
    have hs₂ : s₂ = (({ U with heap := s₂.heap, slotsUsed := s₂.slotsUsed } : State).setVm s₂.vm).setTop { g with pc := g.pc + len₂, stack := v.toList ++ g.stack } := by
      refine e3.trans ?_
      rw [hf₂, State.calling_eq h.top, State.setFrames_setFrames, State.setTop_of_frames _ hr', hr]
      rfl
    have hsame : U.sameButNew ({ U with heap := s₂.heap, slotsUsed := s₂.slotsUsed } : State) L mc ms := by
      refine ⟨?_, q2, q3, q4, q5, q6⟩
      obtain ⟨t, ht, -⟩ := State.frames_cons hr
      show ({ U with heap := s₂.heap, slotsUsed := s₂.slotsUsed } : State) = { U.setFrames U.frames with heap := s₂.heap, slotsUsed := s₂.slotsUsed }
      rw [State.setFrames_self ht]
    subst hg
    refine Or.inl ⟨v, ⟨(({ U with heap := s₂.heap, slotsUsed := s₂.slotsUsed } : State).setVm s₂.vm), Ls ++ L, c0 + mc, s0 + ms⟩,
      ⟨X.admits, X.cas, X.clock, X.frames, X.room, X.hears, X.method, X.code, (X.here.setHeapUsed s₂.heap s₂.slotsUsed).setVm hW'.alike, X.tail, State.WarmedH.trans X.warmed hW', X.limits, X.bytes, X.same.trans (hsame.setVm s.vm)⟩,
      ⟨g, mk, s₂, L, rfl, rfl, hqc, rfl, hL, rfl, rfl⟩, ?_⟩
    show Steps p.tables e below _ ((({ U with heap := s₂.heap, slotsUsed := s₂.slotsUsed } : State).setVm s₂.vm).setTop { g with pc := g.pc + len₂, stack := v.toList ++ g.stack })
    rw [← hs₂]
    exact hsteps
  · obtain ⟨e2, q2, q3, q4, q5, q6⟩ := id hsm
    have e3 : s₂ = ({ (U.calling g mk a).setFrames s₂.frames with heap := s₂.heap, slotsUsed := s₂.slotsUsed } : State).setVm s₂.vm := by
      have : s₂ = ({ s₂ with vm := (U.calling g mk a).vm } : State).setVm s₂.vm := rfl
      rw [e2] at this
      exact this
    have hf₂ : s₂.frames = .throwing q :: .java g :: U.frames.tail := hend
    have hW' : U.WarmedH s₂.vm := hW₂
    have hs₂ : s₂ = ((({ U with heap := s₂.heap, slotsUsed := s₂.slotsUsed } : State).setVm s₂.vm).setTop g).pushFrame (.throwing q) := by
      refine e3.trans ?_
      rw [hf₂, State.calling_eq h.top, State.setFrames_setFrames, State.pushFrame, State.frames_setTop _ hr', State.setTop_of_frames _ hr', State.setFrames_setFrames, hr]
      rfl
    have hsame : U.sameButNew ({ U with heap := s₂.heap, slotsUsed := s₂.slotsUsed } : State) L mc ms := by
      refine ⟨?_, q2, q3, q4, q5, q6⟩
      obtain ⟨t, ht, -⟩ := State.frames_cons hr
      show ({ U with heap := s₂.heap, slotsUsed := s₂.slotsUsed } : State) = { U.setFrames U.frames with heap := s₂.heap, slotsUsed := s₂.slotsUsed }
      rw [State.setFrames_self ht]
    subst hg
    refine Or.inr ⟨q, ⟨(({ U with heap := s₂.heap, slotsUsed := s₂.slotsUsed } : State).setVm s₂.vm), Ls ++ L, c0 + mc, s0 + ms⟩,
      ⟨X.admits, X.cas, X.clock, X.frames, X.room, X.hears, X.method, X.code, (X.here.setHeapUsed s₂.heap s₂.slotsUsed).setVm hW'.alike, X.tail, State.WarmedH.trans X.warmed hW', X.limits, X.bytes, X.same.trans (hsame.setVm s.vm)⟩,
      ⟨g, mk, s₂, L, E, ce, rfl, rfl, hx, hce, hcv, hcl, rfl, hL, rfl, rfl⟩, ?_⟩
    show Steps p.tables e below _ (((({ U with heap := s₂.heap, slotsUsed := s₂.slotsUsed } : State).setVm s₂.vm).setTop g).pushFrame (.throwing q))
    rw [← hs₂]
    exact hsteps
end
variable {p : Program} {l : Launch} {e : Env} {R : Room} {s : State} {m : MethodId} {args : Array Value} {below : List Frame} {meth : Method} {c : Code} {T : State} {H : Heap} {locs : List Loc} {cells slots : Nat}
theorem vx_callVX (X : Stand p l e R s m args below meth c T locs cells slots) (hexec : p.tables.exec = Jvm.exec) {own C : String} {index : Nat} {y : MethodName} {bytes : ByteArray} {maxL : Nat} {ret : Option FieldType} {hh : List (Nat × Nat × Nat × Nat)}
    (hown : s.vm.findClass own = some m.cls) (hlink : (Cond.methodLink own index y).before args s = true) (hinst : (Cond.instanceMethod y).before args s = true) (hsel : (Cond.selects C y y).before args s = true)
    (hcode : (Cond.codeWith y bytes maxL ret hh).before args s = true) (hy : y.cls ≠ "java/lang/invoke/MethodHandle" ∧ y.cls ≠ "java/lang/invoke/VarHandle")
    {W9 : Nat} {Pre : Pt → Array Value → Prop} {Post : Pt → Array Value → Option Value → Pt → Prop} {PostX : Pt → Array Value → Addr → Pt → Prop} (hK : vx_Back l R p e below s args y 3 W9 Pre Post PostX)
    {b : Addr} {cellB : Cell} (hcell : T.heap[b]? = some cellB) (hobj : cellB.vm.isStatics = false) (hcls : s.vm.findClass C = some cellB.cls)
    {g : JFrame} (hg : g.method = m) (hsize : g.locals.size = c.maxLocals) {argsL rest : List Value} (hlen : ∀ sig, parseMethodDescriptor y.desc = some sig → argsL.length = sig.parameters.length)
    (hstack : g.stack = argsL.reverse ++ .ref b :: rest) (hW : 2 * g.monitorRoom + (rest.map fun v => v.category).sum ≤ W9) (hdg : decode c.code g.pc = .ok (.invokevirtual index, 3))
    (hpre : ∀ vm₁, s.WarmedH vm₁ → Pre ⟨T.setVm vm₁, locs, cells, slots⟩ (Value.ref b :: argsL).toArray) :
    (∃ (v : Option Value) (vm₁ : Vm) (B : Pt), s.WarmedH vm₁ ∧ Stand p l e R s m args below meth c B.U B.locs B.cells B.slots ∧ Post ⟨T.setVm vm₁, locs, cells, slots⟩ (Value.ref b :: argsL).toArray v B ∧
      ∀ target, Steps p.tables e below (B.U.setTop { g with pc := g.pc + 3, stack := v.toList ++ rest }) target → Steps p.tables e below (T.setTop g) target) ∨
    (∃ (q : Addr) (vm₁ : Vm) (B : Pt), s.WarmedH vm₁ ∧ Stand p l e R s m args below meth c B.U B.locs B.cells B.slots ∧ PostX ⟨T.setVm vm₁, locs, cells, slots⟩ (Value.ref b :: argsL).toArray q B ∧
      Steps p.tables e below (T.setTop g) ((B.U.setTop { g with stack := rest }).pushFrame (.throwing q))) := by
  obtain ⟨mk, methM, hnamed, hmethM, hstM, habM⟩ := Cond.instanceMethod_spec hinst
  obtain ⟨m8, methM', cM, hn8, hmethM', -, -, -, -, -, -, hsigM⟩ := Cond.codeWith_spec hcode
  cases Option.some.inj (hn8.symm.trans hnamed)
  cases hmethM.symm.trans hmethM'
  obtain ⟨c2, r2, m2, q1, q2, q3, q4, kP, hkP, hkPi⟩ := Cond.selects_spec hsel
  cases hcls.symm.trans q1
  cases (State.methodFound?_of_named hnamed hy).symm.trans q2
  cases hnamed.symm.trans q3
  have hselP : selectMethod e.platform s.vm cellB.cls mk = .method mk := by rw [Launch.admits_selectMethod X.admits]; exact q4
  obtain ⟨vm₁, X₁, hstep₁⟩ := X.invokevirtual hexec hown hlink hnamed hmethM hstM hkP hkPi hy (a := b) (cell := cellB) hcell
    (fun z h => by rw [h] at hobj; cases hobj) hselP hmethM habM hkP hkPi (g := g) hg (argsL := argsL) (rest := rest) (hlen _ hsigM) hstack hdg
  rcases hK m meth c ⟨T.setVm vm₁, locs, cells, slots⟩ { g with stack := rest } (.invokevirtual index) mk (Value.ref b :: argsL).toArray X₁ hg hsize hdg hW (X₁.named hnamed) (hpre vm₁ X₁.warmed) with ⟨v, B, X', hpost, hsteps⟩ | ⟨q, B, X', hpost, hsteps⟩
  · exact Or.inl ⟨v, vm₁, B, X₁.warmed, X', hpost, fun target h => hstep₁ _ fun acts => by rw [doInvoke_state]; exact hsteps.trans h⟩
  · exact Or.inr ⟨q, vm₁, B, X₁.warmed, X', hpost, hstep₁ _ fun acts => by rw [doInvoke_state]; exact hsteps⟩
theorem vx_callSX (X : Stand p l e R s m args below meth c T locs cells slots) (hexec : p.tables.exec = Jvm.exec) {own : String} {index : Nat} {y : MethodName} {bytes : ByteArray} {maxL : Nat} {ret : Option FieldType} {hh : List (Nat × Nat × Nat × Nat)}
    (hown : s.vm.findClass own = some m.cls) (hlink : (Cond.methodLink own index y).before args s = true) (hstat : (Cond.static y).before args s = true) (hinit : (Cond.initialized y.cls).before args s = true)
    (hcode : (Cond.codeWith y bytes maxL ret hh).before args s = true) (hy : y.cls ≠ "java/lang/invoke/MethodHandle" ∧ y.cls ≠ "java/lang/invoke/VarHandle")
    {W9 : Nat} {Pre : Pt → Array Value → Prop} {Post : Pt → Array Value → Option Value → Pt → Prop} {PostX : Pt → Array Value → Addr → Pt → Prop} (hK : vx_Back l R p e below s args y 3 W9 Pre Post PostX)
    {g : JFrame} (hg : g.method = m) (hsize : g.locals.size = c.maxLocals) {argsL rest : List Value} (hlen : ∀ sig, parseMethodDescriptor y.desc = some sig → argsL.length = sig.parameters.length)
    (hstack : g.stack = argsL.reverse ++ rest) (hW : 2 * g.monitorRoom + (rest.map fun v => v.category).sum ≤ W9) (hdg : decode c.code g.pc = .ok (.invokestatic index, 3))
    (hpre : ∀ vm₁, s.WarmedH vm₁ → Pre ⟨T.setVm vm₁, locs, cells, slots⟩ argsL.toArray) :
    (∃ (v : Option Value) (vm₁ : Vm) (B : Pt), s.WarmedH vm₁ ∧ Stand p l e R s m args below meth c B.U B.locs B.cells B.slots ∧ Post ⟨T.setVm vm₁, locs, cells, slots⟩ argsL.toArray v B ∧
      ∀ target, Steps p.tables e below (B.U.setTop { g with pc := g.pc + 3, stack := v.toList ++ rest }) target → Steps p.tables e below (T.setTop g) target) ∨
    (∃ (q : Addr) (vm₁ : Vm) (B : Pt), s.WarmedH vm₁ ∧ Stand p l e R s m args below meth c B.U B.locs B.cells B.slots ∧ PostX ⟨T.setVm vm₁, locs, cells, slots⟩ argsL.toArray q B ∧
      Steps p.tables e below (T.setTop g) ((B.U.setTop { g with stack := rest }).pushFrame (.throwing q))) := by
  obtain ⟨mk, methM, cM, hnamed, hmethM, -, -, -, -, -, -, hsigM⟩ := Cond.codeWith_spec hcode
  have hstatic : methM.isStatic = true := Cond.static_spec hnamed hmethM hstat
  obtain ⟨kP, hkP, -⟩ := className_of_methodNamed hnamed
  have hinitP : kP.init = .initialized := Cond.initialized_spec (findClass_of_methodNamed hnamed) hkP hinit
  obtain ⟨vm₁, X₁, hstep₁⟩ := X.invokestatic hexec hown hlink hnamed hmethM hstatic hkP hinitP hy (g := g) hg (argsL := argsL) (rest := rest) (hlen _ hsigM) hstack hdg
  rcases hK m meth c ⟨T.setVm vm₁, locs, cells, slots⟩ { g with stack := rest } (.invokestatic index) mk argsL.toArray X₁ hg hsize hdg hW (X₁.named hnamed) (hpre vm₁ X₁.warmed) with ⟨v, B, X', hpost, hsteps⟩ | ⟨q, B, X', hpost, hsteps⟩
  · exact Or.inl ⟨v, vm₁, B, X₁.warmed, X', hpost, fun target h => hstep₁ _ fun acts => by rw [doInvoke_state]; exact hsteps.trans h⟩
  · exact Or.inr ⟨q, vm₁, B, X₁.warmed, X', hpost, hstep₁ _ fun acts => by rw [doInvoke_state]; exact hsteps⟩
theorem vx_callVW (X : Stand p l e R s m args below meth c T locs cells slots) (hexec : p.tables.exec = Jvm.exec) {own C : String} {index : Nat} {y : MethodName} {bytes : ByteArray} {maxL : Nat} {ret : Option FieldType} {hh : List (Nat × Nat × Nat × Nat)}
    (hown : s.vm.findClass own = some m.cls) (hlink : (Cond.methodLink own index y).before args s = true) (hinst : (Cond.instanceMethod y).before args s = true) (hsel : (Cond.selects C y y).before args s = true)
    (hcode : (Cond.codeWith y bytes maxL ret hh).before args s = true) (hy : y.cls ≠ "java/lang/invoke/MethodHandle" ∧ y.cls ≠ "java/lang/invoke/VarHandle")
    {W9 : Nat} {Pre : Pt → Array Value → Prop} {Post : Pt → Array Value → Option Value → Pt → Prop} (hK : Back l R p e below s args y 3 W9 Pre Post)
    {b : Addr} {cellB : Cell} (hcell : T.heap[b]? = some cellB) (hobj : cellB.vm.isStatics = false) (hcls : s.vm.findClass C = some cellB.cls)
    {g : JFrame} (hg : g.method = m) (hsize : g.locals.size = c.maxLocals) {argsL rest : List Value} (hlen : ∀ sig, parseMethodDescriptor y.desc = some sig → argsL.length = sig.parameters.length)
    (hstack : g.stack = argsL.reverse ++ .ref b :: rest) (hW : 2 * g.monitorRoom + (rest.map fun v => v.category).sum ≤ W9) (hdg : decode c.code g.pc = .ok (.invokevirtual index, 3))
    (hpre : ∀ vm₁, s.WarmedH vm₁ → Pre ⟨T.setVm vm₁, locs, cells, slots⟩ (Value.ref b :: argsL).toArray) :
    ∃ (v : Option Value) (vm₁ : Vm) (B : Pt), s.WarmedH vm₁ ∧ Stand p l e R s m args below meth c B.U B.locs B.cells B.slots ∧ Post ⟨T.setVm vm₁, locs, cells, slots⟩ (Value.ref b :: argsL).toArray v B ∧
      ∀ target, Steps p.tables e below (B.U.setTop { g with pc := g.pc + 3, stack := v.toList ++ rest }) target → Steps p.tables e below (T.setTop g) target := by
  obtain ⟨mk, methM, hnamed, hmethM, hstM, habM⟩ := Cond.instanceMethod_spec hinst
  obtain ⟨m8, methM', cM, hn8, hmethM', -, -, -, -, -, -, hsigM⟩ := Cond.codeWith_spec hcode
  cases Option.some.inj (hn8.symm.trans hnamed)
  cases hmethM.symm.trans hmethM'
  obtain ⟨c2, r2, m2, q1, q2, q3, q4, kP, hkP, hkPi⟩ := Cond.selects_spec hsel
  cases hcls.symm.trans q1
  cases (State.methodFound?_of_named hnamed hy).symm.trans q2
  cases hnamed.symm.trans q3
  have hselP : selectMethod e.platform s.vm cellB.cls mk = .method mk := by rw [Launch.admits_selectMethod X.admits]; exact q4
  obtain ⟨vm₁, X₁, hstep₁⟩ := X.invokevirtual hexec hown hlink hnamed hmethM hstM hkP hkPi hy (a := b) (cell := cellB) hcell
    (fun z h => by rw [h] at hobj; cases hobj) hselP hmethM habM hkP hkPi (g := g) hg (argsL := argsL) (rest := rest) (hlen _ hsigM) hstack hdg
  obtain ⟨v, B, X', hpost, hsteps⟩ := hK m meth c ⟨T.setVm vm₁, locs, cells, slots⟩ { g with stack := rest } (.invokevirtual index) mk (Value.ref b :: argsL).toArray X₁ hg hsize hdg hW (X₁.named hnamed) (hpre vm₁ X₁.warmed)
  exact ⟨v, vm₁, B, X₁.warmed, X', hpost, fun target h => hstep₁ _ fun acts => by rw [doInvoke_state]; exact hsteps.trans h⟩
abbrev vx_CVW (R : Room) (s : State) (args : Array Value) (own C : String) (index : Nat) (y : MethodName) (bytes : ByteArray) (maxL : Nat) (ret : Option FieldType) (hh : List (Nat × Nat × Nat × Nat)) (ws : List Cond) (rm : Room) (mc ms n : Nat) : Prop :=
  (rm.cells = mc ∧ rm.slots = ms ∧ rm.frames + 1 ≤ R.frames ∧ 8 + (maxL + 11) + rm.locals ≤ R.locals ∧ (∀ w ∈ ws, ∀ (a' : Array Value) (U : State), s.WarmedH U.vm → w.before a' U = true) ∧ Cond.codeWith y bytes maxL ret hh ∈ ws) ∧
  (Cond.codeWith y bytes maxL ret hh).before args s = true ∧ (Cond.initialized y.cls).before args s = true ∧ (y.cls ≠ "java/lang/invoke/MethodHandle" ∧ y.cls ≠ "java/lang/invoke/VarHandle") ∧
  (∀ sig, parseMethodDescriptor y.desc = some sig → n = sig.parameters.length) ∧ (Cond.methodLink own index y).before args s = true ∧ (Cond.instanceMethod y).before args s = true ∧ (Cond.selects C y y).before args s = true
theorem vx_cwVW {own C : String} {index maxL mc ms : Nat} {y : MethodName} {bytes : ByteArray} {ret : Option FieldType} {hh : List (Nat × Nat × Nat × Nat)} {Ts ws ws' : List Cond} {rm : Room} (n : Nat) (ht : ∀ w ∈ Ts, w.before args s = true) (hT : GoodIn Ts (wsV own index C y ws)) (hw : ws = Cond.codeWith y bytes maxL ret hh :: ws') (hrc : rm.cells = mc) (hrs : rm.slots = ms)
    (hd : y.cls = C ∧ y.cls ≠ "java/lang/invoke/MethodHandle" ∧ y.cls ≠ "java/lang/invoke/VarHandle" ∧ (parseMethodDescriptor y.desc).map (fun d => d.parameters.length) = some n) (hR : rm.frames + 1 ≤ R.frames ∧ 8 + (maxL + 11) + rm.locals ≤ R.locals) :
    vx_CVW R s args own C index y bytes maxL ret hh ws rm mc ms n := by
  obtain ⟨hC, hd⟩ := hd
  subst hC
  have ok : ∀ w ∈ wsV own index y.cls y ws, w.before args s = true := fun w h => ht w (hT w h).1
  have hG : GoodIn Ts ws := fun w h => hT w (by unfold wsV; exact List.mem_append_right _ h)
  have hc : Cond.codeWith y bytes maxL ret hh ∈ ws := by rw [hw]; exact List.mem_cons_self
  refine ⟨⟨hrc, hrs, hR.1, hR.2, pay_in ht hG, hc⟩, ht _ (hG _ hc).1, ok _ (by simp [wsV]), ⟨hd.1, hd.2.1⟩, fun sig h => ?_, ok _ (by simp [wsV]), ok _ (by simp [wsV]), ok _ (by simp [wsV])⟩
  have h2 := hd.2.2
  rw [h] at h2
  exact (Option.some.inj h2).symm
theorem vx_runVW {y : MethodName} {bytes cc : ByteArray} {maxL nL mc ms n index : Nat} {ret : Option FieldType} {hh : List (Nat × Nat × Nat × Nat)} {ws : List Cond} {rm : Room} {Pc : Array Value → State → Prop} {Qc : Array Value → State → Outcome → State → Prop} {free : Addr → Prop} {Ts : List Cond} {own C : String} {b : Addr} {As rest : List Value} {g : JFrame}
    (S : CallFix p m c cc nL s args Ts own) (hM : Met l y ws rm Pc Qc mc ms free) (cw : vx_CVW R s args own C index y bytes maxL ret hh ws rm mc ms n) (hp : PreV s H C b Pc As)
    (hg : g.method = m) (hn : As.length = n) (hsize : g.locals.size = nL) (hstack : g.stack = As.reverse ++ .ref b :: rest) (hW : 2 * g.monitorRoom + (rest.map fun v => v.category).sum ≤ 8) (hdg : decode cc g.pc = .ok (.invokevirtual index, 3)) (hf : cells + mc ≤ R.cells ∧ slots + ms ≤ R.slots) :
    va_Run p l e R s m args below meth c H locs cells slots mc ms g rest (Qc (Value.ref b :: As).toArray) free := by
  obtain ⟨⟨hrc, hrs, hfr, hlo, hws, hcw⟩, hcode, hini, hy, hlen, hl, hin, hse⟩ := cw
  have hK : Back l R p e below s args y 3 8 (PreOf R mc ms Pc) (PostOf Qc mc ms free) := va_backW (hh := hh) (bytes := bytes) (maxL := maxL) (ret := ret) hM hp.1 hrc hrs hfr hlo hws hcw (fun a' U hW => word_at hW (Or.inl (by first | rfl | simp [Cond.onTables, Cond.keeps, Cond.steady])) hini)
  obtain ⟨hx, hb, hml, ho, -⟩ := S
  obtain ⟨-, ⟨cellB, hcB, hoB, hclB⟩, hPc⟩ := hp
  intro T hT X
  obtain ⟨v, vm₁, ⟨U', l2, c2, s2⟩, hW₁, X', ⟨g', mk, t, L, e1, e2, hq, h1, hL, h2, h3⟩, st⟩ := vx_callVW X hx (C := C) (hh := hh) (bytes := bytes) (maxL := maxL) (ret := ret) ho hl hin hse hcode hy hK (by rw [hT]; exact hcB) hoB hclB hg (hsize.trans hml.symm) (argsL := As) (rest := rest) (fun sig h => hn.trans (hlen sig h)) hstack hW (by rw [hb]; exact hdg)
    (fun vm₁ hW₁ => ⟨hf.1, hf.2, hPc (T.setVm vm₁) hT hW₁⟩)
  dsimp only [Pt.U, Pt.locs, Pt.cells, Pt.slots] at X' e1 e2 h1 h2 h3 st
  subst h1; subst h2; subst h3
  exact ⟨v, (T.setVm vm₁).calling g' mk (Value.ref b :: As).toArray, t, U', L, hT, X', hL, e1, e2, hq, st⟩
section
variable {y : MethodName} {bytes cc : ByteArray} {maxL nL mc ms n index : Nat} {ret : Option FieldType} {ws : List Cond} {rm : Room} {Pc : Array Value → State → Prop} {Qc : Array Value → State → Outcome → State → Prop} {XC : String → State → State → Prop} {free : Addr → Prop} {Ts : List Cond} {own C : String} {b : Addr} {As rest : List Value} {g : JFrame}
theorem vx_runVX {hh : List (Nat × Nat × Nat × Nat)} (S : CallFix p m c cc nL s args Ts own) (hM : vx_Met l y ws rm Pc Qc XC mc ms free) (cw : vx_CVW R s args own C index y bytes maxL ret hh ws rm mc ms n) (hp : PreV s H C b Pc As)
    (hg : g.method = m) (hn : As.length = n) (hsize : g.locals.size = nL) (hstack : g.stack = As.reverse ++ .ref b :: rest) (hW : 2 * g.monitorRoom + (rest.map fun v => v.category).sum ≤ 8) (hdg : decode cc g.pc = .ok (.invokevirtual index, 3)) (hf : cells + mc ≤ R.cells ∧ slots + ms ≤ R.slots) :
    vx_Run p l e R s m args below meth c H locs cells slots mc ms g rest (Qc (Value.ref b :: As).toArray) XC free := by
  obtain ⟨⟨hrc, hrs, hfr, hlo, hws, hcw⟩, hcode, hini, hy, hlen, hl, hin, hse⟩ := cw
  have hK : vx_Back l R p e below s args y 3 8 (PreOf R mc ms Pc) (PostOf Qc mc ms free) (vx_Post XC mc ms free) := vx_backW (hh := hh) (bytes := bytes) (maxL := maxL) (ret := ret) hM hp.1 hrc hrs hfr hlo hws hcw (fun a' U hW => word_at hW (Or.inl (by first | rfl | simp [Cond.onTables, Cond.keeps, Cond.steady])) hini)
  obtain ⟨hx, hb, hml, ho, -⟩ := S
  obtain ⟨-, ⟨cellB, hcB, hoB, hclB⟩, hPc⟩ := hp
  intro T hT X
  rcases vx_callVX X hx (C := C) (hh := hh) (bytes := bytes) (maxL := maxL) (ret := ret) ho hl hin hse hcode hy hK (by rw [hT]; exact hcB) hoB hclB hg (hsize.trans hml.symm) (argsL := As) (rest := rest) (fun sig h => hn.trans (hlen sig h)) hstack hW (by rw [hb]; exact hdg)
    (fun vm₁ hW₁ => ⟨hf.1, hf.2, hPc (T.setVm vm₁) hT hW₁⟩) with ⟨v, vm₁, ⟨U', l2, c2, s2⟩, hW₁, X', ⟨g', mk, t, L, e1, e2, hq, h1, hL, h2, h3⟩, st⟩ | ⟨q, vm₁, ⟨U', l2, c2, s2⟩, hW₁, X', ⟨g', mk, t, L, E, ce, e1, e2, hq, hce, hcv, hcl, h1, hL, h2, h3⟩, st⟩
  · dsimp only [Pt.U, Pt.locs, Pt.cells, Pt.slots] at X' e1 e2 h1 h2 h3 st
    subst h1; subst h2; subst h3
    exact Or.inl ⟨v, (T.setVm vm₁).calling g' mk (Value.ref b :: As).toArray, t, U', L, hT, X', hL, e1, e2, hq, st⟩
  · dsimp only [Pt.U, Pt.locs, Pt.cells, Pt.slots] at X' e1 e2 h1 h2 h3 st hcl
    subst h1; subst h2; subst h3
    exact Or.inr ⟨q, (T.setVm vm₁).calling g' mk (Value.ref b :: As).toArray, t, U', L, E, ce, hT, X', hL, e1, e2, hq, hce, hcv, vx_cls hW₁ hcl, st⟩
theorem vx_runSX {hh : List (Nat × Nat × Nat × Nat)} (S : CallFix p m c cc nL s args Ts own) (hM : vx_Met l y ws rm Pc Qc XC mc ms free) (cw : vx_CSW R s args own index y bytes maxL ret hh ws rm mc ms n) (hp : PreS s H Pc As)
    (hg : g.method = m) (hn : As.length = n) (hsize : g.locals.size = nL) (hstack : g.stack = As.reverse ++ rest) (hW : 2 * g.monitorRoom + (rest.map fun v => v.category).sum ≤ 8) (hdg : decode cc g.pc = .ok (.invokestatic index, 3)) (hf : cells + mc ≤ R.cells ∧ slots + ms ≤ R.slots) :
    vx_Run p l e R s m args below meth c H locs cells slots mc ms g rest (Qc As.toArray) XC free := by
  obtain ⟨⟨hrc, hrs, hfr, hlo, hws, hcw⟩, hcode, hini, hy, hlen, hl, hstt⟩ := cw
  have hK : vx_Back l R p e below s args y 3 8 (PreOf R mc ms Pc) (PostOf Qc mc ms free) (vx_Post XC mc ms free) := vx_backW (hh := hh) (bytes := bytes) (maxL := maxL) (ret := ret) hM hp.1 hrc hrs hfr hlo hws hcw (fun a' U hW => word_at hW (Or.inl (by first | rfl | simp [Cond.onTables, Cond.keeps, Cond.steady])) hini)
  obtain ⟨hx, hb, hml, ho, -⟩ := S
  intro T hT X
  rcases vx_callSX X hx (hh := hh) (bytes := bytes) (maxL := maxL) (ret := ret) ho hl hstt hini hcode hy hK hg (hsize.trans hml.symm) (argsL := As) (rest := rest) (fun sig h => hn.trans (hlen sig h)) hstack hW (by rw [hb]; exact hdg)
    (fun vm₁ hW₁ => ⟨hf.1, hf.2, hp.2 (T.setVm vm₁) hT hW₁⟩) with ⟨v, vm₁, ⟨U', l2, c2, s2⟩, hW₁, X', ⟨g', mk, t, L, e1, e2, hq, h1, hL, h2, h3⟩, st⟩ | ⟨q, vm₁, ⟨U', l2, c2, s2⟩, hW₁, X', ⟨g', mk, t, L, E, ce, e1, e2, hq, hce, hcv, hcl, h1, hL, h2, h3⟩, st⟩
  · dsimp only [Pt.U, Pt.locs, Pt.cells, Pt.slots] at X' e1 e2 h1 h2 h3 st
    subst h1; subst h2; subst h3
    exact Or.inl ⟨v, (T.setVm vm₁).calling g' mk As.toArray, t, U', L, hT, X', hL, e1, e2, hq, st⟩
  · dsimp only [Pt.U, Pt.locs, Pt.cells, Pt.slots] at X' e1 e2 h1 h2 h3 st hcl
    subst h1; subst h2; subst h3
    exact Or.inr ⟨q, (T.setVm vm₁).calling g' mk As.toArray, t, U', L, E, ce, hT, X', hL, e1, e2, hq, hce, hcv, vx_cls hW₁ hcl, st⟩
end
end VXH
theorem vx_ofWH {l : Launch} {y : MethodName} {ws ws' : List Cond} {rm : Room} {Pc : Array Value → State → Prop} {Qc : Array Value → State → Outcome → State → Prop} {XC : String → State → State → Prop} {mc ms : Nat} {free : Addr → Prop} {cc : ByteArray} {maxL : Nat} {ret : Option FieldType} {hh : List (Nat × Nat × Nat × Nat)}
    (hy : plainName y.cls = true) (hw : ws = Cond.codeWith y cc maxL ret hh :: ws')
    (body : ∀ p e s m args below meth c s₁, BodyLoose p l y (headSpec ws rm) cc maxL ret e s m args below meth c s₁ → c.maxLocals = maxL → Pc args s →
      W p l e (headSpec ws rm).room s m args below meth c s.heap [] 0 0 (vx_MQ below Qc XC args s mc ms free) (entryFrame m args maxL)) : vx_Met l y ws rm Pc Qc XC mc ms free := by
  refine MetFree.of_bodyS (code := cc) (maxLocals := maxL) (ret := ret) hy ?_ ?_
  · intro args s m h hn
    obtain ⟨m9, meth, c, hn9, h1, h2, h3, h4, -, h5, h6, -⟩ := Cond.codeWith_spec (atoms_spec (ws := ws) h _ (by rw [hw]; exact List.mem_cons_self))
    cases hn.symm.trans hn9
    exact ⟨meth, c, h1, h2, h3, h4, h5, h6⟩
  · intro p e s m args below meth c s₁ B hml hP _
    have hh0 : s₁.heap = s.heap := by rw [B.state]; rfl
    obtain ⟨t, a1, o, b1, b2, b3⟩ := body p e s m args below meth c s₁ B hml hP s₁ hh0 (Stand.of_body B)
    exact ⟨t, o, a1, b1, b2, b3⟩
/-! ===== END ===== -/
end
section
/-! methods that throw, and what they need of the start -/
def rk_IAE : String := "java/lang/IllegalArgumentException"
def rk_IOO : String := "java/lang/IndexOutOfBoundsException"
def rk_ISE : String := "java/lang/IllegalStateException"
def rk_NSE : String := "java/util/NoSuchElementException"
def rk_NM : List String := ["java/lang/RuntimeException", "java/lang/Exception"]
def rk_iS (X : String) : MethodName := ⟨X, "<init>", "(Ljava/lang/String;)V"⟩
def rk_BW (cls : String) : List Cond := [.castable cls cls, .declares (rk_iS "java/lang/RuntimeException"), .declares (rk_iS "java/lang/Exception"), .declares (rk_iS "java/lang/Throwable")]
def rk_Y (U : State) : Prop := (∃ a, vk_R R_K 113 "no such vertex" a U) ∧ (∃ a, vk_R R_K 48 "the round is full" a U) ∧ (∃ a, vk_R R_K 66 "a count would be below 0" a U) ∧ (∃ a, vk_R R_K 116 "no such pair" a U) ∧ (∃ a, vk_R R_K 95 "no way leads there" a U) ∧
  va_Nw (.castable rk_IAE rk_IAE) U ∧ va_Nw (.castable rk_IOO rk_IOO) U ∧ va_Nw (.castable rk_ISE rk_ISE) U ∧ va_Nw (.castable rk_NSE rk_NSE) U ∧ va_Nw (.methodLinkNest R_P 29 y_K_numberOf R_K) U ∧ va_Nc rk_IOO rk_IAE U ∧ va_Nc rk_NSE rk_IAE U ∧ va_Nw (.declares (rk_iS "java/lang/RuntimeException")) U ∧ va_Nw (.declares (rk_iS "java/lang/Exception")) U ∧ va_Nw (.declares (rk_iS "java/lang/Throwable")) U
theorem rk_Y.warm {s U : State} (hW : s.WarmedH U.vm) (h : rk_Y s) : rk_Y U := by
  obtain ⟨⟨a1, h1⟩, ⟨a2, h2⟩, ⟨a3, h3⟩, ⟨a4, h4⟩, ⟨a5, h5⟩, c1, c2, c3, c4, n1, d1, d2, e1, e2, e3⟩ := h
  exact ⟨⟨a1, vk_R.warm hW h1⟩, ⟨a2, vk_R.warm hW h2⟩, ⟨a3, vk_R.warm hW h3⟩, ⟨a4, vk_R.warm hW h4⟩, ⟨a5, vk_R.warm hW h5⟩, va_Nw.warmC hW c1, va_Nw.warmC hW c2, va_Nw.warmC hW c3, va_Nw.warmC hW c4, va_Nw.warmM hW n1, va_Nc.moved hW.alike d1, va_Nc.moved hW.alike d2, va_Nw.warmD hW e1, va_Nw.warmD hW e2, va_Nw.warmD hW e3⟩
def rk_Z (A : Nat → Prop) (U : State) (H : Heap) : Prop := vx_Zq Bundle.tN "UNASSIGNED_STACK" Bundle.steD A U H ∧ vx_Zq Bundle.tN "SUPPRESSED_SENTINEL" Bundle.listD A U H
theorem rk_Z.moved {A : Nat → Prop} {u U : State} {H : Heap} (hvm : u.vm.Alike U.vm) (h : rk_Z A u H) : rk_Z A U H := ⟨vx_Zq.moved hvm h.1, vx_Zq.moved hvm h.2⟩
theorem rk_Z.kept {A : Nat → Prop} {U : State} {H H1 : Heap} (h : rk_Z A U H) (hq : ∀ a : Nat, a < H.size → ¬ A a → H1[a]? = H[a]?) : rk_Z A U H1 := ⟨h.1.kept hq, h.2.kept hq⟩
theorem rk_Z.narrow {A B : Nat → Prop} {U : State} {H : Heap} (h : rk_Z A U H) (hAB : ∀ q, B q → A q) : rk_Z B U H := ⟨h.1.narrow hAB, h.2.narrow hAB⟩
def rk_preX (D : va_G) (TY : List (ClassId × FieldType)) (sz : Nat) (ws : va_W) (U : State) : Prop := rk_pre D TY sz ws U ∧ rk_Y U ∧ rk_Z (va_A ws sz) U U.heap
theorem rk_blindX {D : va_G} {TY : List (ClassId × FieldType)} {sz : Nat} {ws : va_W} {av : List Value} : FrameBlind (va_Pc av (rk_preX D TY sz ws)) := fun a U g mk q => by
  obtain ⟨q0, ⟨q1, qP, qK, qD⟩, qY, qZ⟩ := q
  exact ⟨q0, ⟨q1, qP, va_K.moved (u := U) (U := U.calling g mk a) (Vm.Alike.refl U.vm) qK, qD⟩, rk_Y.warm (s := U) (U := U.calling g mk a) (State.WarmedH.refl U) qY, rk_Z.moved (u := U) (U := U.calling g mk a) (Vm.Alike.refl U.vm) qZ⟩
theorem rk_giveX {D : va_G} {TY : List (ClassId × FieldType)} {ws wc : va_W} {av : List Value} {s : State} {H : Heap} {A0 : Nat → Prop} {locs : List Loc} (isC : List Nat) (hP : va_P D classes ws H) (hK : va_K D classes TY s) (hD : va_D A0 ws) (hY : rk_Y s) (hZ : rk_Z A0 s s.heap) (hS : va_S A0 s.heap H locs) (hA : ∀ q : Nat, s.heap.size ≤ q → A0 q) (hnC : va_nd isC = true) (hC : isC.map (fun i => ws[i]?) = wc.map some) :
    ∀ U : State, U.heap = H → s.WarmedH U.vm → va_Pc av (rk_preX D TY H.size wc) av.toArray U := fun U hU hW => by
  obtain ⟨q0, q1⟩ := rk_give (av := av) (rk_psub hP hC) hK (hD.sub isC hnC hC) U hU hW
  refine ⟨q0, q1, rk_Y.warm hW hY, ?_⟩
  rw [hU]
  exact rk_Z.moved hW.alike ((hZ.kept hS.2.1).narrow (va_free hD hS hA isC hC))
def rk_XC (D : va_G) (TY : List (ClassId × FieldType)) (A : Nat → Prop) (ws : va_W) (px : String → Prop) : String → State → State → Prop := vx_X (S := Unit) (fun _ => True) (fun E _ t => px E ∧ rk_at D TY A ws t) A
section RKBX
variable {l : Launch} {y : MethodName} {cc : ByteArray} {maxL : Nat} {ret : Option FieldType} {av : List Value} {D : va_G} {TY : List (ClassId × FieldType)} {sz : Nat} {ws : va_W} {rm : Room} {Qc : Array Value → State → Outcome → State → Prop} {XC : String → State → State → Prop} {mc ms : Nat} {hh : List (Nat × Nat × Nat × Nat)}
theorem rk_bodyY (hy : plainName y.cls = true) (hlen : (lg_sl av).length ≤ maxL)
    (body : ∀ (p : Program) (e : Env) (s : State) (m : MethodId) (below : List Frame) (meth : Method) (c : Code), p.tables.exec = Jvm.exec → c.code = cc → c.maxLocals = maxL → meth.sig.returnType = ret → (∀ w ∈ WT, w.before av.toArray s = true) → s.vm.findClass y.cls = some m.cls → meth.locks = false → meth.name = y.name → s.heap.size = sz →
      va_P D classes ws s.heap → va_K D classes TY s → va_D (va_A ws sz) ws → (∀ q : Nat, s.heap.size ≤ q → va_A ws sz q) → va_S (va_A ws sz) s.heap s.heap [] → rk_Y s → rk_Z (va_A ws sz) s s.heap → ∀ ls : Array Slot, lv_has ls maxL (lv_args 0 av) →
      W p l e rm s m av.toArray below meth c s.heap [] 0 0 (MQ below Qc av.toArray s mc ms (va_A ws sz)) (F0 m 0 ls [])) :
    Met l y (.code y cc maxL ret :: WT) rm (va_Pc av (rk_preX D TY sz ws)) Qc mc ms (va_A ws sz) := by
  refine Met.ofW (cc := cc) (maxL := maxL) (ret := ret) hy rfl ?_
  intro p e s m args below meth c s₁ B hml hv
  obtain ⟨rfl, ⟨hsz, hP, hK, hD0⟩, hY, hZ⟩ := hv
  have hts := atoms_spec (ws := .code y cc maxL ret :: WT) B.pre
  have hD := hD0.self (sz := sz)
  have hl := lv_entry av (n := maxL) hlen
  rw [lg_entry_eq]
  exact body p e s m below meth c B.exec B.bytes hml B.returns (fun w h => hts w (List.mem_cons_of_mem _ h)) (findClass_of_methodNamed B.named) B.notSynchronized (name_of_methodNamed B.named B.method).1 hsz hP hK hD (fun q h => Or.inr (by rw [← hsz]; exact h)) va_S.rf hY hZ _ hl
/-- a method that may throw -/
theorem rk_bodyX (hy : plainName y.cls = true) (hlen : (lg_sl av).length ≤ maxL)
    (body : ∀ (p : Program) (e : Env) (s : State) (m : MethodId) (below : List Frame) (meth : Method) (c : Code), p.tables.exec = Jvm.exec → c.code = cc → c.maxLocals = maxL → meth.sig.returnType = ret → (∀ w ∈ WT, w.before av.toArray s = true) → s.vm.findClass y.cls = some m.cls → meth.locks = false → meth.name = y.name → s.heap.size = sz →
      va_P D classes ws s.heap → va_K D classes TY s → va_D (va_A ws sz) ws → (∀ q : Nat, s.heap.size ≤ q → va_A ws sz q) → va_S (va_A ws sz) s.heap s.heap [] → rk_Y s → rk_Z (va_A ws sz) s s.heap → (∀ x ∈ c.exceptionTable.toList, False) → ∀ ls : Array Slot, lv_has ls maxL (lv_args 0 av) →
      W p l e rm s m av.toArray below meth c s.heap [] 0 0 (vx_MQ below Qc XC av.toArray s mc ms (va_A ws sz)) (F0 m 0 ls [])) :
    vx_Met l y (.code y cc maxL ret :: WT) rm (va_Pc av (rk_preX D TY sz ws)) Qc XC mc ms (va_A ws sz) := by
  refine vx_ofW (cc := cc) (maxL := maxL) (ret := ret) hy rfl ?_
  intro p e s m args below meth c s₁ B hml ht hv
  obtain ⟨rfl, ⟨hsz, hP, hK, hD0⟩, hY, hZ⟩ := hv
  have hts := atoms_spec (ws := .code y cc maxL ret :: WT) B.pre
  have hD := hD0.self (sz := sz)
  have hl := lv_entry av (n := maxL) hlen
  rw [lg_entry_eq]
  exact body p e s m below meth c B.exec B.bytes hml B.returns (fun w h => hts w (List.mem_cons_of_mem _ h)) (findClass_of_methodNamed B.named) B.notSynchronized (name_of_methodNamed B.named B.method).1 hsz hP hK hD (fun q h => Or.inr (by rw [← hsz]; exact h)) va_S.rf hY hZ ht _ hl
/-- a method with an exception table, all caught -/
theorem rk_bodyH (hy : plainName y.cls = true) (hlen : (lg_sl av).length ≤ maxL)
    (body : ∀ (p : Program) (e : Env) (s : State) (m : MethodId) (below : List Frame) (meth : Method) (c : Code), p.tables.exec = Jvm.exec → c.code = cc → c.maxLocals = maxL → meth.sig.returnType = ret → (∀ w ∈ WT, w.before av.toArray s = true) → s.vm.findClass y.cls = some m.cls → meth.locks = false → meth.name = y.name → s.heap.size = sz →
      va_P D classes ws s.heap → va_K D classes TY s → va_D (va_A ws sz) ws → (∀ q : Nat, s.heap.size ≤ q → va_A ws sz q) → va_S (va_A ws sz) s.heap s.heap [] → rk_Y s → rk_Z (va_A ws sz) s s.heap → c.exceptionTable.toList = tableOf hh → ∀ ls : Array Slot, lv_has ls maxL (lv_args 0 av) →
      W p l e rm s m av.toArray below meth c s.heap [] 0 0 (MQ below Qc av.toArray s mc ms (va_A ws sz)) (F0 m 0 ls [])) :
    Met l y (.codeWith y cc maxL ret hh :: WT) rm (va_Pc av (rk_preX D TY sz ws)) Qc mc ms (va_A ws sz) := by
  refine va_MetW (cc := cc) (maxL := maxL) (ret := ret) (hh := hh) hy rfl ?_
  intro p e s m args below meth c s₁ B hml hv
  obtain ⟨rfl, ⟨hsz, hP, hK, hD0⟩, hY, hZ⟩ := hv
  have hts := atoms_spec (ws := .codeWith y cc maxL ret hh :: WT) B.pre
  have hD := hD0.self (sz := sz)
  have hl := lv_entry av (n := maxL) hlen
  rw [lg_entry_eq]
  exact body p e s m below meth c B.exec B.bytes hml B.returns (fun w h => hts w (List.mem_cons_of_mem _ h)) (findClass_of_methodNamed B.named) B.notSynchronized (name_of_methodNamed B.named B.method).1 hsz hP hK hD (fun q h => Or.inr (by rw [← hsz]; exact h)) va_S.rf hY hZ (vx_table (x := y) B (hts _ List.mem_cons_self)) _ hl
end RKBX
theorem rk_bw {cls : String} {s : State} {args : Array Value} (hc : va_Nw (.castable cls cls) s) (hY : rk_Y s) : ∀ w ∈ rk_BW cls, w.before args s = true := by
  obtain ⟨-, -, -, -, -, -, -, -, -, -, -, -, e1, e2, e3⟩ := hY
  exact vx_c (va_Nw.use rfl hc) (vx_c (va_Nw.use rfl e1) (vx_c (va_Nw.use rfl e2) (vx_c (va_Nw.use rfl e3) vx_n)))
section RKX
variable {p : Program} {l : Launch} {e : Env} {R : Room} {s : State} {m : MethodId} {args : Array Value} {below : List Frame} {meth : Method} {c : Code} {H : Heap} {locs : List Loc} {cells slots : Nat} {Q : State → Prop}
variable {pc : Nat} {ls : Array Slot} {rest : List Value} {cc : ByteArray} {D : va_G} {TY : List (ClassId × FieldType)} {A : Nat → Prop} {mc ms : Nat} {wc wr ws wx : va_W} {st0 : List Value} {A0 : Nat → Prop} {H0 : Heap} {px : String → Prop} {Qc : Array Value → State → Outcome → State → Prop}
theorem rk_xc {cls : String} (hp : px cls) (hP : va_P D classes ws H) (hK : va_K D classes TY s) (hD : va_D A ws) (hS : va_S A s.heap H locs) : ∀ t : State, s.vm.Alike t.vm → H.size ≤ t.heap.size → (∀ q : Nat, q < H.size → t.heap[q]? = H[q]?) → rk_XC D TY A ws px cls s t := fun t ha hz hk =>
  ⟨(), trivial, ⟨hp, hP.kept (fun k q hq => hk q.1 (hP k q hq).lt), va_K.moved ha hK, hD⟩, Nat.le_trans hS.1 hz, fun q h1 h2 => (hk q (Nat.lt_of_lt_of_le h1 hS.1)).trans (hS.2.1 q h1 h2)⟩
theorem rk_xout {E : String} {ce : Cell} {q : Addr} (hout : ∀ x ∈ c.exceptionTable.toList, False) (hlocks : meth.locks = false) (hcell : H[q]? = some ce) (hv : ce.vm = .none) (hcl : s.vm.findClass E = some ce.cls) (hp : px E) (hP : va_P D classes ws H) (hK : va_K D classes TY s) (hD : va_D A ws) (hS : va_S A s.heap H locs) (hc : cells ≤ mc) (hs : slots ≤ ms) :
    vx_W p l e R s m args below meth c H locs cells slots (vx_MQ below Qc (rk_XC D TY A ws px) args s mc ms A) (F0 m pc ls rest) q :=
  vx_out (fun x hx => (hout x hx).elim) hlocks hcell hv hcl (fun t ht ha => rk_xc hp hP hK hD hS t ha (by rw [ht]; exact Nat.le_refl _) (fun q _ => by rw [ht])) hS.2.2 hc hs
theorem rk_xbacki {S : Type} {post : Int32 → S → Prop} {wf : S → va_W} {a : Array Value} (hr : vx_Run p l e R s m args below meth c H locs cells slots mc ms (F0 m pc ls st0) rest (va_Qi post (fun u t => rk_at D TY (va_A wc H.size) (wf u) t) (va_A wc H.size) a) (rk_XC D TY (va_A wc H.size) wx px) (va_A wc H.size))
    (hP : va_P D classes ws H) (hD : va_D A0 ws) (hS : va_S A0 H0 H locs) (hA : ∀ q : Nat, H0.size ≤ q → A0 q) (isC isR : List Nat) (hC : isC.map (fun i => ws[i]?) = wc.map some) (hR : isR.map (fun i => ws[i]?) = wr.map some) (hn : va_nd isR = true) (hdis : ∀ i ∈ isR, i ∉ isC)
    (kx : ∀ (E : String) (ce : Cell) (q9 : Addr) (H1 : Heap) (locs1 : List Loc), px E → va_P D classes (wr ++ wx) H1 → va_D A0 (wr ++ wx) → va_S A0 H0 H1 locs1 → H1[q9]? = some ce → ce.vm = .none → s.vm.findClass E = some ce.cls → vx_W p l e R s m args below meth c H1 locs1 (cells + mc) (slots + ms) Q (F0 m pc ls rest) q9)
    (kk : ∀ (r : Int32) (u : S) (H1 : Heap) (locs1 : List Loc), post r u → va_P D classes (wr ++ wf u) H1 → va_D A0 (wr ++ wf u) → va_S A0 H0 H1 locs1 → W p l e R s m args below meth c H1 locs1 (cells + mc) (slots + ms) Q (F0 m (pc + 3) ls (.int r :: rest))) :
    W p l e R s m args below meth c H locs cells slots Q (F0 m pc ls st0) := by
  have hFc := va_free (wc := wc) hD hS hA isC hC
  refine vx_calli hr hS (fun q _ h => hFc q h) hFc (fun q _ h => hFc q h) (fun E ce q9 u t H1 locs1 ht hvm _ hB hz1 hk1 hS1 hce hcv hcl => ?_) (fun r u t H1 locs1 ht hvm hp hB hz1 hk1 hS1 => ?_)
  · obtain ⟨hp, hP1, hK1, hD1⟩ := hB
    rw [ht] at hP1
    obtain ⟨hP2, hD2⟩ := va_join hP hD isC isR hC hR hn hdis hk1 hFc hP1 hD1
    exact kx E ce q9 H1 locs1 hp hP2 hD2 hS1 hce hcv hcl
  · obtain ⟨hP1, hK1, hD1⟩ := hB
    rw [ht] at hP1
    obtain ⟨hP2, hD2⟩ := va_join hP hD isC isR hC hR hn hdis hk1 hFc hP1 hD1
    exact kk r u H1 locs1 hp hP2 hD2 hS1
theorem rk_xbackv {S : Type} {post : S → Prop} {wf : S → va_W} {a : Array Value} (hr : vx_Run p l e R s m args below meth c H locs cells slots mc ms (F0 m pc ls st0) rest (va_Qv post (fun u t => rk_at D TY (va_A wc H.size) (wf u) t) (va_A wc H.size) a) (rk_XC D TY (va_A wc H.size) wx px) (va_A wc H.size))
    (hP : va_P D classes ws H) (hD : va_D A0 ws) (hS : va_S A0 H0 H locs) (hA : ∀ q : Nat, H0.size ≤ q → A0 q) (isC isR : List Nat) (hC : isC.map (fun i => ws[i]?) = wc.map some) (hR : isR.map (fun i => ws[i]?) = wr.map some) (hn : va_nd isR = true) (hdis : ∀ i ∈ isR, i ∉ isC)
    (kx : ∀ (E : String) (ce : Cell) (q9 : Addr) (H1 : Heap) (locs1 : List Loc), px E → va_P D classes (wr ++ wx) H1 → va_D A0 (wr ++ wx) → va_S A0 H0 H1 locs1 → H1[q9]? = some ce → ce.vm = .none → s.vm.findClass E = some ce.cls → vx_W p l e R s m args below meth c H1 locs1 (cells + mc) (slots + ms) Q (F0 m pc ls rest) q9)
    (kk : ∀ (u : S) (H1 : Heap) (locs1 : List Loc), post u → va_P D classes (wr ++ wf u) H1 → va_D A0 (wr ++ wf u) → va_S A0 H0 H1 locs1 → W p l e R s m args below meth c H1 locs1 (cells + mc) (slots + ms) Q (F0 m (pc + 3) ls rest)) :
    W p l e R s m args below meth c H locs cells slots Q (F0 m pc ls st0) := by
  have hFc := va_free (wc := wc) hD hS hA isC hC
  refine vx_callv hr hS (fun q _ h => hFc q h) hFc (fun q _ h => hFc q h) (fun E ce q9 u t H1 locs1 ht hvm _ hB hz1 hk1 hS1 hce hcv hcl => ?_) (fun u t H1 locs1 ht hvm hp hB hz1 hk1 hS1 => ?_)
  · obtain ⟨hp, hP1, hK1, hD1⟩ := hB
    rw [ht] at hP1
    obtain ⟨hP2, hD2⟩ := va_join hP hD isC isR hC hR hn hdis hk1 hFc hP1 hD1
    exact kx E ce q9 H1 locs1 hp hP2 hD2 hS1 hce hcv hcl
  · obtain ⟨hP1, hK1, hD1⟩ := hB
    rw [ht] at hP1
    obtain ⟨hP2, hD2⟩ := va_join hP hD isC isR hC hR hn hdis hk1 hFc hP1 hD1
    exact kk u H1 locs1 hp hP2 hD2 hS1
/-- throw new cls(text), with the words of the throw out of WT -/
def rk_Xw (ic : Nat) (cls : String) : Prop := (∀ w ∈ (vx_atS R_K ic cls rk_NM).filter goodWord, w ∈ WT) ∧ (∀ w ∈ (vx_atS R_K ic cls rk_NM).filter (fun w => !goodWord w), w ∈ rk_BW cls)
theorem rk_throw {ik is ic sa : Nat} {cls text : String} (hx : p.tables.exec = Jvm.exec) (hb : c.code = cc) (hl9 : l.stackTraces = false) (hml : c.maxLocals = ls.size) (htw : ∀ w ∈ WT, w.before args s = true) (hown : s.vm.findClass R_K = some m.cls) (hfit : Bundle.fit cls = true) (hk : Cond.classLink R_K ik cls ∈ WT) (hini : Cond.initialized cls ∈ WT) (hstr : vk_R R_K is text sa s) (hw : rk_Xw ic cls) (hcast : va_Nw (.castable cls cls) s) (hY : rk_Y s)
    (hgood : ∀ w ∈ Cond.classLink R_K ik cls :: Cond.initialized cls :: vx_atS R_K ic cls rk_NM, vx_ot w = true) (hZ : rk_Z A s s.heap)
    (d0 : decode cc pc = .ok (.new ik, 3)) (d3 : decode cc (pc + 3) = .ok (.dup, 1)) (d4 : decode cc (pc + 4) = .ok (.ldc is, 2)) (d6 : decode cc (pc + 6) = .ok (.invokespecial ic, 3)) (d9 : decode cc (pc + 9) = .ok (.athrow, 1))
    (hout : ∀ x ∈ c.exceptionTable.toList, False) (hRf : 5 < R.frames) (hRl : (rest.map fun v => v.category).sum + 82 ≤ R.locals) (hRc : cells + 1 ≤ R.cells) (hRs : slots + 6 ≤ R.slots) (hlocks : meth.locks = false)
    (hp : px cls) (hP : va_P D classes ws H) (hK : va_K D classes TY s) (hD : va_D A ws) (hS : va_S A s.heap H locs) (hc : cells + 1 ≤ mc) (hs : slots + 6 ≤ ms) :
    W p l e R s m args below meth c H locs cells slots (vx_MQ below Qc (rk_XC D TY A ws px) args s mc ms A) (F0 m pc ls rest) :=
  vx_throwS (names := rk_NM) hx hb hl9 hown hfit (by decide) (htw _ hk) (htw _ hini) hstr (vx_hat (fun w h => htw w (hw.1 w h)) hw.2 (rk_bw hcast hY)) hgood hZ.1 hZ.2 hS hml.symm d0 d3 d4 d6 d9 (fun x h => (hout x h).elim) hRf hRl hRc hRs hlocks (rk_xc hp hP hK hD hS) hS.2.2 hc hs
end RKX
theorem rk_xw {ic : Nat} {cls : String} (h1 : ∀ w ∈ (vx_atS R_K ic cls rk_NM).filter goodWord, w ∈ lw_tbl) (h2 : ∀ w ∈ (vx_atS R_K ic cls rk_NM).filter (fun w => !goodWord w), w ∈ rk_BW cls) : rk_Xw ic cls := ⟨fun w h => List.mem_filter.mpr ⟨h1 w h, (List.mem_filter.mp h).2⟩, h2⟩
theorem xw_115 : rk_Xw 115 rk_IAE := rk_xw (by decide +kernel) (by decide +kernel)
theorem xw_50 : rk_Xw 50 rk_IOO := rk_xw (by decide +kernel) (by decide +kernel)
theorem xw_68 : rk_Xw 68 rk_ISE := rk_xw (by decide +kernel) (by decide +kernel)
theorem xg_115 : ∀ w ∈ Cond.classLink R_K 111 rk_IAE :: Cond.initialized rk_IAE :: vx_atS R_K 115 rk_IAE rk_NM, vx_ot w = true := by decide +kernel
theorem xg_50 : ∀ w ∈ Cond.classLink R_K 46 rk_IOO :: Cond.initialized rk_IOO :: vx_atS R_K 50 rk_IOO rk_NM, vx_ot w = true := by decide +kernel
theorem xg_68 : ∀ w ∈ Cond.classLink R_K 64 rk_ISE :: Cond.initialized rk_ISE :: vx_atS R_K 68 rk_ISE rk_NM, vx_ot w = true := by decide +kernel
end
section
/-! an exception whose own constructor names its superclass's by another entry of its pool: 'throw new NoSuchElementException(text)'. The two laws below follow the library's Stand.ctorThrowS (JvmDerived/BundleOwnThrow.lean) and the kit's vx_throwS, with the chain's first link by rk_chainN -/
def rk_b13 : ByteArray := ⟨#[0x2a, 0x2b, 0xb7, 0x00, 0x0d, 0xb1]⟩
theorem b13_0 : decode rk_b13 0 = .ok (.aload_n 0, 1) := by decide +kernel
theorem b13_1 : decode rk_b13 1 = .ok (.aload_n 1, 1) := by decide +kernel
theorem b13_2 : decode rk_b13 2 = .ok (.invokespecial 13, 3) := by decide +kernel
theorem b13_5 : decode rk_b13 5 = .ok (.return_, 1) := by decide +kernel
def rk_own (own : String) (ic : Nat) (X : String) : List Cond := Bundle.throwableAtoms ++ Bundle.throwableSAtoms ++ (Bundle.passSAtoms X "java/lang/RuntimeException" 13 rk_b13 ++ Bundle.chainSAtoms "java/lang/RuntimeException" ["java/lang/Exception"]) ++
  [.methodLink own ic (Bundle.initS X), .instantiable X 6, .castable X X, .selects X Bundle.tFill0 Bundle.tFill0, .selects X Bundle.tFill Bundle.tFill,
   .lays X Bundle.tN "cause" "Ljava/lang/Throwable;", .lays X Bundle.tN "stackTrace" Bundle.steD, .lays X Bundle.tN "suppressedExceptions" Bundle.listD, .lays X Bundle.tN "detailMessage" "Ljava/lang/String;",
   .isRef (.static Bundle.tN "UNASSIGNED_STACK" Bundle.steD), .isRef (.static Bundle.tN "SUPPRESSED_SENTINEL" Bundle.listD),
   .fieldLink Bundle.tN 198 Bundle.tN "backtrace" "Ljava/lang/Object;", .lays Bundle.tN Bundle.tN "backtrace" "Ljava/lang/Object;", .lays X Bundle.tN "backtrace" "Ljava/lang/Object;"]
theorem rk_chainN {args : Array Value} {s : State} {pl : Platform} (hpl : pl.magicAccessors = ({} : Platform).magicAccessors) {top : MethodId} (htop : s.methodNamed? (Bundle.initS Bundle.tN) = some top) (X : String) (hX : Bundle.fit X = true)
    (h : ∀ c ∈ Bundle.passSAtoms X "java/lang/RuntimeException" 13 rk_b13 ++ Bundle.chainSAtoms "java/lang/RuntimeException" ["java/lang/Exception"], c.before args s = true) :
    ∃ (P1 : PassC) (Ps : List PassC), Ps.length = 1 + 1 ∧ P1.LinksS pl s ∧ (∀ P, P ∈ Ps → P.LinksS pl s) ∧ s.methodNamed? (Bundle.initS X) = some P1.m ∧
      P1.sup = firstOf top (Ps.map (·.toPassT)) ∧ PassesOn top (Ps.map (·.toPassT)) := by
  obtain ⟨P, L, hm, hs⟩ := PassC.ofS_atoms (args := args) (s := s) hpl (X := X) (Y := "java/lang/RuntimeException") (Bundle.fit_spec hX).1 (by decide) b13_0 b13_1 b13_2 b13_5 (fun c hc => h c (List.mem_append_left _ hc))
  obtain ⟨P', Ps, hlen, L', hL, hm', hsup, hpass⟩ := Bundle.chainS (args := args) (s := s) hpl htop ["java/lang/Exception"] "java/lang/RuntimeException" (by decide) (by decide) (fun c hc => h c (List.mem_append_right _ hc))
  refine ⟨P, P' :: Ps, by simp [hlen], L, ?_, hm, Option.some.inj (hs.symm.trans hm'), hsup, hpass⟩
  intro Q hQ
  rcases List.mem_cons.mp hQ with rfl | hQ
  · exact L'
  · exact hL Q hQ
section RKN
variable {p : Program} {l : Launch} {e : Env} {R : Room} {s : State} {m₀ : MethodId} {args : Array Value} {below : List Frame} {meth : Method} {c : Code} {W : State} {locs : List Loc} {cells slots : Nat}
set_option maxHeartbeats 4000000 in
theorem rk_ctorN (X : Stand p l e R s m₀ args below meth c W locs cells slots) (hexec : p.tables.exec = Jvm.exec) (htr : e.platform.stackTraces = false) {own cls : String} {ic : Nat}
    (hown : s.vm.findClass own = some m₀.cls) (hcls : Bundle.fit cls = true)
    (h : ∀ a ∈ rk_own own ic cls, a.before args s = true)
    (hlocs : ∀ x ∈ locs, ∀ cell, s.heap[x.base]? = some cell → cell.vm.isStatics = false)
    {a : Addr} {cX : ClassId} {kX : Class} (hfoundX : s.vm.findClass cls = some cX) (hkX : s.vm.classes[cX]? = some kX) (hcell : W.heap[a]? = some (freshCell cX kX)) (hnew : s.heap.size ≤ a)
    {msg : Value} (hmsg : msg.isRef = true)
    {g : JFrame} (hg : g.method = m₀) (hsize : g.locals.size = c.maxLocals) (hlocked : g.locked = none) (hentered : g.entered = []) {rest : List Value} (hstack : g.stack = msg :: .ref a :: .ref a :: rest)
    (hd6 : decode c.code g.pc = .ok (.invokespecial ic, 3)) (hd9 : decode c.code (g.pc + 3) = .ok (.athrow, 1)) (hout : ∀ x ∈ c.exceptionTable.toList, covers x (g.pc + 3) = false)
    (hRframes : 1 + 1 + 3 < R.frames) (hRlocals : 2 * g.monitorRoom + ((Value.ref a :: rest).map fun v => v.category).sum + (13 * (1 + 1 + 1) + 42) ≤ R.locals) (hlocks : meth.locks = false := by first | assumption | exact BodyLoose.notSynchronized (by assumption) | exact Body.notSynchronized (by assumption)) :
    ∃ U : State, Steps p.tables e below (W.setTop g) U ∧ U.status = .running ∧ Ended U below (.threw a) ∧ s.WarmedH U.vm ∧ s.sameButNew ({ U with vm := s.vm } : State) locs cells slots ∧
      ∃ ce, U.heap[a]? = some ce ∧ ce.vm = .none ∧ s.vm.findClass cls = some ce.cls := by
  have howns : e.platform.frameOwnsMonitors = true := by rw [X.admits.platform]
  have hfin : e.platform.finalization = false := by rw [X.admits.platform]
  have hpl : e.platform.magicAccessors = ({} : Platform).magicAccessors := by rw [X.admits.platform]
  have a' : ∀ x, x ∈ rk_own own ic cls → x.holds args s none s [] = true := fun x hx => h x hx
  obtain ⟨T, Z0, L, -, Y⟩ := ThrowableC.of_atoms (args := args) howns hfin hpl (fun x hx => h x (by simp [rk_own, hx]))
  obtain ⟨Z, M, LZ, LM, hnZ⟩ := Init0T.ofS_atoms (args := args) hpl L Y (fun x hx => h x (by simp [rk_own, hx]))
  obtain ⟨P1, Ps, hlen, L1, hL, hP1m, hlink1, hlink⟩ := rk_chainN (args := args) hpl hnZ cls hcls (fun x hx => h x (List.mem_append_left _ (List.mem_append_right _ hx)))

  have hfound : s.vm.findClass cls = some P1.m.cls := findClass_of_methodNamed hP1m
  cases Option.some.inj (hfoundX.symm.trans hfound)
  obtain ⟨c1, kX', hc1, hk, hord, -, -, hn6⟩ := Cond.instantiable_spec (a' (.instantiable cls 6) (by simp [rk_own]))
  cases Option.some.inj (hc1.symm.trans hfound)
  cases Option.some.inj (hkX.symm.trans hk)
  have hsel0 : selectMethod e.platform s.vm P1.m.cls T.fill0 = .method T.fill0 := by
    obtain ⟨c2, r2, m2, q1, q2, q3, q4, -⟩ := Cond.selects_spec (a' (.selects cls Bundle.tFill0 Bundle.tFill0) (by simp [rk_own]))
    cases Option.some.inj (q1.symm.trans hfound)
    cases Option.some.inj (q2.symm.trans (State.methodFound?_of_named Y.fill0 (by decide)))
    cases Option.some.inj (q3.symm.trans Y.fill0)
    rw [Launch.admits_selectMethod X.admits]; exact q4
  have hselF : selectMethod e.platform s.vm P1.m.cls T.fill = .method T.fill := by
    obtain ⟨c2, r2, m2, q1, q2, q3, q4, -⟩ := Cond.selects_spec (a' (.selects cls Bundle.tFill Bundle.tFill) (by simp [rk_own]))
    cases Option.some.inj (q1.symm.trans hfound)
    cases Option.some.inj (q2.symm.trans (State.methodFound?_of_named Y.fill (by decide)))
    cases Option.some.inj (q3.symm.trans Y.fill)
    rw [Launch.admits_selectMethod X.admits]; exact q4
  obtain ⟨cellS0, hcS0, hiss⟩ := Y.statics
  obtain ⟨u0, hu0⟩ := Cond.staticRefV Y.unassigned L.unassignedStatic L.statics hcS0 hiss (a' (.isRef (.static Bundle.tN "UNASSIGNED_STACK" Bundle.steD)) (by simp [rk_own]))
  obtain ⟨sen, hsen⟩ := Cond.staticRefV Y.sentinel L.sentinelStatic L.statics hcS0 hiss (a' (.isRef (.static Bundle.tN "SUPPRESSED_SENTINEL" Bundle.listD)) (by simp [rk_own]))
  obtain ⟨ci198, i198, fB, hk198, hg198, ha198, hsB, -, hnB, htB, hffB⟩ := Cond.ownField (t := .object "java/lang/Object") Y.found L.cls (by decide +kernel) (a' (.fieldLink Bundle.tN 198 Bundle.tN "backtrace" "Ljava/lang/Object;") (by simp [rk_own])) (a' (.lays Bundle.tN Bundle.tN "backtrace" "Ljava/lang/Object;") (by simp [rk_own])) e.platform hpl
  obtain ⟨cellS, hcS', heS, -, hkeep⟩ := X.same.2.2.2.2.2 T.aS cellS0 hcS0
  have hcellS : W.heap[T.aS]? = some cellS := hcS'
  have hout' : ∀ i, (⟨T.aS, i⟩ : Loc) ∉ locs := fun i hmem => by
    have := hlocs _ hmem cellS0 hcS0
    rw [hiss] at this; cases this
  have hknownS : cellS.vm ≠ .unknown := by
    rw [heS]; intro hu
    rw [show cellS0.vm = .unknown from hu] at hiss
    cases hiss
  have hneS : T.aS ≠ a := Nat.ne_of_lt (Nat.lt_of_lt_of_le (Array.getElem?_eq_some_iff.mp hcS0).1 hnew)
  obtain ⟨iM, hffM⟩ := Y.msg
  obtain ⟨tyC, dC, hdC, hdnC⟩ := Cond.laysAt hfound hk Y.cause (a' (.lays cls Bundle.tN "cause" "Ljava/lang/Throwable;") (by simp [rk_own]))
  obtain ⟨tyS, dS, hdS, hdnS⟩ := Cond.laysAt hfound hk Y.stack (a' (.lays cls Bundle.tN "stackTrace" Bundle.steD) (by simp [rk_own]))
  obtain ⟨tyP, dP, hdP, hdnP⟩ := Cond.laysAt hfound hk Y.supp (a' (.lays cls Bundle.tN "suppressedExceptions" Bundle.listD) (by simp [rk_own]))
  obtain ⟨tyM, dM, hdM, hdnM⟩ := Cond.laysAt hfound hk hffM (a' (.lays cls Bundle.tN "detailMessage" "Ljava/lang/String;") (by simp [rk_own]))
  obtain ⟨tyB, dB, hdB, hdnB⟩ := Cond.laysAt hfound hk hffB (a' (.lays cls Bundle.tN "backtrace" "Ljava/lang/Object;") (by simp [rk_own]))
  have bC := Cond.laysApart hdB hdC hdnB hdnC (by rw [hnB, Y.causeName]; decide)
  have bS := Cond.laysApart hdB hdS hdnB hdnS (by rw [hnB, Y.stackName]; decide)
  have bP := Cond.laysApart hdB hdP hdnB hdnP (by rw [hnB, Y.suppName]; decide)
  have hskip : SkipFacts T e.platform s (fun u => u) u0 ((preparedCellV T.toThrowableT (freshCell P1.m.cls kX) a u0 sen).withEntry W.cur) :=
    ⟨{ ci198 := ci198, i198 := i198, fBack := fB }, ⟨hk198, hg198, ha198, hsB⟩, by
      have := fresh_default (c := P1.m.cls) tyB
      rw [htB] at this
      simpa [preparedCellV, Cell.setSlot, Cell.withEntry, Array.getElem?_setIfInBounds, bC, bS, bP, bC.symm, bS.symm, bP.symm, defaultValue] using this, fun _ _ => rfl⟩

  obtain ⟨tm, methC, cdC, kC, vm₁, hnC, -, -, -, -, -, -, -, hW₁, st1⟩ := Steps.initColdS (tb := p.tables) (e := e) (below := below) (s := s) (U := W) X.here hexec X.warmed hpl hown (t := Bundle.initS cls) rfl rfl (Bundle.fit_spec hcls).2
    (a' (.methodLink own ic (Bundle.initS cls)) (by simp [rk_own])) (h (.instanceMethod (Bundle.initS cls)) (by simp [rk_own, Bundle.passSAtoms, rk_iS, Bundle.initS])) (bytes := rk_b13) (maxL := 2) (h (.code (Bundle.initS cls) rk_b13 2 none) (by simp [rk_own, Bundle.passSAtoms, rk_iS, Bundle.initS]))
    (f := g) hg (a := a) (msg := msg) (rest := .ref a :: rest) hstack hd6
  cases Option.some.inj (hnC.symm.trans hP1m)
  have X₁ := X.noted hW₁

  obtain ⟨vm₂, X₂, st2⟩ := X₁.ctorMessageOffV hexec (g := { g with stack := .ref a :: rest }) hg hsize T L Z LZ M LM (P1 :: Ps)
    (fun P hP => by rcases List.mem_cons.mp hP with rfl | hP; exact L1; exact hL P hP) ⟨hlink1, hlink⟩ (u0 := u0) (sen := sen) (self := a) hmsg (cell := freshCell P1.m.cls kX) (cellS := cellS)
    hcell (fun _ => by simp) (by simp) rfl rfl hsel0 hselF hcellS hneS hknownS (by rw [hkeep _ (hout' _)]; exact hu0) (by rw [hkeep _ (hout' _)]; exact hsen)
    (Takes.of_laid hk hord tyC (by rw [Y.causeType]; rfl)) (Takes.of_laid hk hord tyS (by rw [Y.stackType]; exact fits_refV_array _ u0)) (Takes.of_laid hk hord tyP (by rw [Y.suppType]; exact fits_refV_object _ sen))
    (Takes.of_laid hk hord tyM (by rw [Y.msgType]; exact fits_refV_object _ ⟨msg, hmsg⟩)) Y.objLocals hskip htr [] hd6
    (by simp only [List.length_cons, hlen]; omega) (by simp only [List.length_cons, hlen]; exact hRlocals)

  obtain ⟨hwalk, hrun, hended, hWU, hsame⟩ := X₂.athrowLeaves hexec (g := { g with stack := .ref a :: rest, pc := g.pc + 3 }) hg hlocked hentered hout (a := a) (rest := rest) rfl hd9
  have hlt : a < ((W.setVm vm₁).setVm vm₂).heap.size := (Array.getElem?_eq_some_iff.mp hcell).1
  have hU := heapAt_setCell_self (s := (W.setVm vm₁).setVm vm₂) (plainBareV T.toThrowableT (freshCell P1.m.cls kX) a u0 sen msg) hlt
  refine ⟨_, st1 _ (fun acts => ?_), hrun, hended, hWU, hsame.weaken (fun y hy hlt' => ?_) (Nat.le_refl _) (Nat.le_refl _), _, hU, rfl, hfound⟩
  · rw [doInvoke_state]
    exact st2 _ hwalk
  · rcases List.mem_append.mp hy with h1 | h1
    · exact h1
    · exfalso
      have hb : y.base = a := by
        simp only [List.mem_cons, List.not_mem_nil, or_false] at h1
        rcases h1 with rfl | rfl | rfl | rfl | rfl <;> rfl
      rw [hb] at hlt'
      exact Nat.not_lt.mpr hnew hlt'
end RKN
section RKNT
variable {p : Program} {l : Launch} {e : Env} {R : Room} {s : State} {m : MethodId} {args : Array Value} {below : List Frame} {meth : Method} {c : Code} {H : Heap} {locs : List Loc} {cells slots : Nat} {Q : State → Prop}
variable {mc ms : Nat} {free : Addr → Prop} {A0 A1 : Nat → Prop} {H0 : Heap} {a : Array Value} {ls : Array Slot} {st0 rest : List Value}
variable {Qc : Array Value → State → Outcome → State → Prop} {XC : String → State → State → Prop}
set_option maxHeartbeats 4000000 in
theorem rk_throwSN {cc : ByteArray} {pc : Nat} (hexec : p.tables.exec = Jvm.exec) (hb : c.code = cc) (hl : l.stackTraces = false) {own cls text : String} {ik is ic mc ms sa : Nat} {A : Nat → Prop}
    (hown : s.vm.findClass own = some m.cls) (hcls : Bundle.fit cls = true)
    (hk : (Cond.classLink own ik cls).before args s = true) (hini : (Cond.initialized cls).before args s = true) (hstr : vk_R own is text sa s) (hat : ∀ w ∈ (rk_own own ic cls).filter vx_no, w.before args s = true)
    (hgood : ∀ w ∈ Cond.classLink own ik cls :: Cond.initialized cls :: (rk_own own ic cls).filter vx_no, vx_ot w = true)
    (hU : vx_Zq Bundle.tN "UNASSIGNED_STACK" Bundle.steD A s s.heap) (hN : vx_Zq Bundle.tN "SUPPRESSED_SENTINEL" Bundle.listD A s s.heap) (hS : va_S A s.heap H locs) (hsize : ls.size = c.maxLocals)
    (d0 : decode cc pc = .ok (.new ik, 3)) (d3 : decode cc (pc + 3) = .ok (.dup, 1)) (d4 : decode cc (pc + 4) = .ok (.ldc is, 2)) (d6 : decode cc (pc + 6) = .ok (.invokespecial ic, 3)) (d9 : decode cc (pc + 9) = .ok (.athrow, 1))
    (hout : ∀ x ∈ c.exceptionTable.toList, covers x (pc + 9) = false)
    (hRframes : 1 + 1 + 3 < R.frames) (hRlocals : (rest.map fun v => v.category).sum + (13 * (1 + 1 + 1) + 43) ≤ R.locals) (hRcells : cells + 1 ≤ R.cells) (hRslots : slots + 6 ≤ R.slots) (hlocks : meth.locks = false)
    (hx : ∀ t : State, s.vm.Alike t.vm → H.size ≤ t.heap.size → (∀ q : Nat, q < H.size → t.heap[q]? = H[q]?) → XC cls s t)
    (hf : ∀ z ∈ locs, free z.base) (hc : cells + 1 ≤ mc) (hs : slots + 6 ≤ ms) :
    W p l e R s m args below meth c H locs cells slots (vx_MQ below Qc XC args s mc ms free) (F0 m pc ls rest) := by
  intro T hT X
  have htr : e.platform.stackTraces = false := (show e.platform.stackTraces = l.stackTraces by rw [X.admits.platform]).trans hl
  have Y := vx_rebase X (R' := { frames := R.frames, locals := R.locals, cells := 1, slots := 6 }) (Nat.le_refl _) (Nat.le_refl _) hRcells hRslots
  obtain ⟨s', hA⟩ : ∃ z, z = (T.setVm s.vm).setFrames (.invoking m args :: below) := ⟨_, rfl⟩
  rw [← hA] at Y
  have hvm : s'.vm = s.vm := by rw [hA]; rfl
  have hhp : s'.heap = H := by rw [hA]; exact hT
  have hW0 : s.WarmedH s'.vm := by rw [hvm]; exact State.WarmedH.refl s
  have hat' : ∀ w ∈ (rk_own own ic cls).filter vx_no, w.before args s' = true := fun w hw => vx_ot_at hW0 hvm.symm (hgood w (List.mem_cons_of_mem _ (List.mem_cons_of_mem _ hw))) (hat w hw)
  have hk' : (Cond.classLink own ik cls).before args s' = true := vx_ot_at hW0 hvm.symm (hgood _ List.mem_cons_self) hk
  have hini' : (Cond.initialized cls).before args s' = true := vx_ot_at hW0 hvm.symm (hgood _ (List.mem_cons_of_mem _ List.mem_cons_self)) hini
  have hU' : vx_Zq Bundle.tN "UNASSIGNED_STACK" Bundle.steD A s' s'.heap := by rw [hhp]; exact vx_Zq.moved hW0.alike (hU.kept hS.2.1)
  have hN' : vx_Zq Bundle.tN "SUPPRESSED_SENTINEL" Bundle.listD A s' s'.heap := by rw [hhp]; exact vx_Zq.moved hW0.alike (hN.kept hS.2.1)
  have h : ∀ w ∈ rk_own own ic cls, w.before args s' = true := vx_own hat' (vx_isRefq hU'.1) (vx_isRefq hN'.1) hU'.2.word hN'.2.word
  have hown' : s'.vm.findClass own = some m.cls := by rw [hvm]; exact hown
  have hins : (Cond.instantiable cls 6).before args s' = true := h _ (by simp [rk_own])
  obtain ⟨vm₁, cX, kX, hfX, hkX, -, -, X₁, st1⟩ := Y.newCold hexec (own := own) (C := cls) (index := ik) (n := 6) hown' hk' hins hini'
    (g := F0 m pc ls rest) rfl (by rw [hb]; exact d0) (Nat.le_refl _) (Nat.le_refl _)
  generalize hT1 : (T.setVm vm₁).pushCell { cls := cX, slots := kX.instanceTypes.map defaultValue, vm := .none } = T1 at X₁ st1
  have hcat : (Value.ref T.heap.size).category = 1 := rfl
  have hcellA : T1.heap[T.heap.size]? = some (freshCell cX kX) := by rw [← hT1]; exact State.heap_pushCell_size _ _
  have d3' : decode c.code (pc + 3) = .ok (.dup, 1) := by rw [hb]; exact d3
  have d4' : decode c.code (pc + 4) = .ok (.ldc is, 2) := by rw [hb]; exact d4
  have hstr' : vk_R own is text sa s' := vk_R.warm hW0 hstr
  obtain ⟨U, hsteps, hrun, hend, hW, hsame, ce, hce, hOv, hOc⟩ := rk_ctorN X₁ hexec htr (own := own) (cls := cls) (ic := ic) hown' hcls h (fun x hx => nomatch hx) hfX hkX hcellA (by rw [hhp, hT]; exact Nat.le_refl _) (msg := .ref sa) rfl
    (g := { method := m, pc := pc + 6, locals := ls, stack := .ref sa :: .ref T.heap.size :: .ref T.heap.size :: rest, locked := none }) rfl hsize rfl rfl (rest := rest) rfl
    (by rw [hb]; exact d6) (by rw [hb]; exact d9) hout hRframes (by simp only [List.map_cons, List.sum_cons, hcat]; omega) hlocks
  obtain ⟨f1, f2⟩ := vx_frame hsame
  rw [hhp] at f1 f2
  have hWs : s.WarmedH U.vm := State.WarmedH.trans hW0 hW
  have hcl : s.vm.findClass cls = some ce.cls := by
    have h9 := hOc
    rw [hvm] at h9
    exact h9
  have hall : s.sameButNew ({ U with vm := s.vm } : State) locs mc ms := by
    subst hA
    obtain ⟨e1, e2⟩ := hsame
    rw [State.setFrames_setFrames] at e1
    have h2 : (T.setVm s.vm).sameButNew ({ U with vm := s.vm } : State) [] (0 + 1) (0 + 6) := ⟨e1, e2⟩
    have h3 := X.same.trans h2
    rw [List.append_nil] at h3
    exact h3.mono hc hs
  refine ⟨U, ?_, .threw T.heap.size, hrun, hend, Or.inr ⟨T.heap.size, rfl, cls, ce, locs, hx U hWs.alike f1 (fun q hq => f2 q hq (fun z hz => nomatch hz)), hce, hOv, hcl, hWs, hall, hf⟩⟩
  refine st1 _ ?_
  show Steps p.tables e below (T1.setTop { method := m, pc := pc + 3, locals := ls, stack := .ref T.heap.size :: rest, locked := none }) _
  jvm_step X₁.here [X₁.here.top, hexec, d3', Value.category]
  exact X₁.ldcString hexec (own := own) (text := text) (index := is) (a := sa) hown' hstr'.1 hstr'.2
    (g := { method := m, pc := pc + 4, locals := ls, stack := .ref T.heap.size :: .ref T.heap.size :: rest, locked := none }) rfl d4' _ hsteps
end RKNT
theorem rk_xwN : (∀ w ∈ ((rk_own R_K 97 rk_NSE).filter vx_no).filter goodWord, w ∈ lw_tbl) ∧ (∀ w ∈ ((rk_own R_K 97 rk_NSE).filter vx_no).filter (fun w => !goodWord w), w ∈ rk_BW rk_NSE) := ⟨by decide +kernel, by decide +kernel⟩
theorem rk_xgN : ∀ w ∈ Cond.classLink R_K 93 rk_NSE :: Cond.initialized rk_NSE :: (rk_own R_K 97 rk_NSE).filter vx_no, vx_ot w = true := by decide +kernel
section RKXN
variable {p : Program} {l : Launch} {e : Env} {R : Room} {s : State} {m : MethodId} {args : Array Value} {below : List Frame} {meth : Method} {c : Code} {H : Heap} {locs : List Loc} {cells slots : Nat}
variable {pc : Nat} {ls : Array Slot} {rest : List Value} {cc : ByteArray} {D : va_G} {TY : List (ClassId × FieldType)} {A : Nat → Prop} {mc ms : Nat} {ws : va_W} {px : String → Prop} {Qc : Array Value → State → Outcome → State → Prop}
theorem rk_throwN {is sa : Nat} {text : String} (hx : p.tables.exec = Jvm.exec) (hb : c.code = cc) (hl9 : l.stackTraces = false) (hml : c.maxLocals = ls.size) (htw : ∀ w ∈ WT, w.before args s = true) (hown : s.vm.findClass R_K = some m.cls) (hk : Cond.classLink R_K 93 rk_NSE ∈ WT) (hini : Cond.initialized rk_NSE ∈ WT) (hstr : vk_R R_K is text sa s) (hcast : va_Nw (.castable rk_NSE rk_NSE) s) (hY : rk_Y s)
    (hZ : rk_Z A s s.heap)
    (d0 : decode cc pc = .ok (.new 93, 3)) (d3 : decode cc (pc + 3) = .ok (.dup, 1)) (d4 : decode cc (pc + 4) = .ok (.ldc is, 2)) (d6 : decode cc (pc + 6) = .ok (.invokespecial 97, 3)) (d9 : decode cc (pc + 9) = .ok (.athrow, 1))
    (hout : ∀ x ∈ c.exceptionTable.toList, False) (hRf : 5 < R.frames) (hRl : (rest.map fun v => v.category).sum + 82 ≤ R.locals) (hRc : cells + 1 ≤ R.cells) (hRs : slots + 6 ≤ R.slots) (hlocks : meth.locks = false)
    (hp : px rk_NSE) (hP : va_P D classes ws H) (hK : va_K D classes TY s) (hD : va_D A ws) (hS : va_S A s.heap H locs) (hc : cells + 1 ≤ mc) (hs : slots + 6 ≤ ms) :
    W p l e R s m args below meth c H locs cells slots (vx_MQ below Qc (rk_XC D TY A ws px) args s mc ms A) (F0 m pc ls rest) :=
  rk_throwSN hx hb hl9 hown (by decide) (htw _ hk) (htw _ hini) hstr (vx_hat (fun w h => htw w (List.mem_filter.mpr ⟨rk_xwN.1 w h, (List.mem_filter.mp h).2⟩)) rk_xwN.2 (rk_bw hcast hY)) rk_xgN hZ.1 hZ.2 hS hml.symm d0 d3 d4 d6 d9 (fun x h => (hout x h).elim) hRf hRl hRc hRs hlocks (rk_xc hp hP hK hD hS) hS.2.2 hc hs
end RKXN
end
section
def rk_apK (pp : Nat → Nat) (t gs : Nat → Int32) (g : Nat) (f0 : Nat → Bool) (r : Int32) (u : (Nat → Int32) × (Nat → Int32) × (Nat → Int32) × (Nat → Int32) × (Nat → Int32) × (Nat → Int32) × (Nat → Int32)) : Prop :=
  rk_any (fun i => decide (t (pp i) + gs (pp i) < 0)) g = false ∧ (∀ p, p < 1024 → u.1 p = if rk_in pp g p = true then t p + gs p else t p) ∧ (∀ p, p < 1024 → u.2.1 p = if rk_in pp g p = true then 0 else if rk_in pp g p = true then 0 else gs p) ∧
  rk_R u.2.2.1 (fun p => decide (0 < u.1 p)) ∧ rk_R u.2.2.2.1 (rk_jv 32 (fun p => decide (0 < u.1 p))) ∧ rk_R u.2.2.2.2.2.1 (fun p => rk_jv 32 (fun p => decide (0 < u.1 p)) p && !f0 p) ∧ rk_R u.2.2.2.2.2.2 (fun p => f0 p && !rk_jv 32 (fun p => decide (0 < u.1 p)) p) ∧
  r = nI (rk_sz u.2.2.2.2.2.1 32 + rk_sz u.2.2.2.2.2.2 32)
end
section
set_option maxHeartbeats 4000000 in
set_option maxRecDepth 100000 in
theorem c_K_requireVertices (l : Launch) (hl9 : l.stackTraces = false) (dC : Nat → ClassId) (dI : Nat → Nat → Nat) (cI cZ cJ : ClassId) (sz : Nat) (x y : Int32) : vx_Met l y_K_requireVertices (.code y_K_requireVertices b_K_requireVertices 2 none :: WT) { frames := 6, cells := 1, slots := 6, locals := 82 } (va_Pc [.int x, .int y] (rk_preX (dC, dI) [(cI, .int), (cZ, .boolean), (cJ, .long)] sz [])) (va_Qv (fun (u : Unit) => (rk_v x && rk_v y) = true) (fun _ s9 => rk_at (dC, dI) [(cI, .int), (cZ, .boolean), (cJ, .long)] (va_A [] sz) [] s9) (va_A [] sz)) (rk_XC (dC, dI) [(cI, .int), (cZ, .boolean), (cJ, .long)] (va_A [] sz) [] (fun E => E = rk_IAE ∧ (rk_v x && rk_v y) = false)) 1 6 (va_A [] sz) := by
  refine rk_bodyX (by decide) (Nat.le_of_ble_eq_true rfl) ?_
  intro p e s m below meth c hx hb hml hr htw hown hlocks hin hsz hP hK hD hA hS hY hZ hout ls hl
  have hown : s.vm.findClass R_K = some m.cls := hown
  have hl : lv_has ls 2 [(0, .int x), (1, .int y)] := hl
  refine lv_iload_n hx hb d_K_requireVertices_0 rfl (lv_at hl 0 rfl) ?_
  refine rk_backi (wc := []) (wr := []) (va_runS (As := [.int x]) (rest := []) ⟨hx, hb, hml, hown, htw⟩ (c_K_isVertex l dC dI cI cZ cJ _ x) (rk_cwS 1 htw gc_K_requireVertices_1 (by decide +kernel) ⟨(Nat.le_of_ble_eq_true rfl), (Nat.le_of_ble_eq_true rfl)⟩) (⟨rk_blind, rk_give (rk_psub (isC := []) hP rfl) hK (hD.sub [] rfl rfl)⟩) rfl rfl hl.1 rfl (lv_room (Nat.le_of_ble_eq_true rfl)) d_K_requireVertices_1 ⟨(Nat.le_of_ble_eq_true rfl), (Nat.le_of_ble_eq_true rfl)⟩) hP hD hS hA [] [] rfl rfl rfl (by decide) (fun x5 u5 H locs hp hP hD hS => ?_)
  subst hp
  have hP : va_P (dC, dI) classes [] H := hP
  have hD : va_D _ [] := hD
  refine lv_if_eq (tgt := 14) hx hb d_K_requireVertices_4 (by decide) (fun hc => ?_) (fun hc => ?_)
  · obtain ⟨sa, hstr⟩ := hY.1
    exact rk_throw (ik := 111) (is := 113) (ic := 115) (sa := sa) (cls := rk_IAE) (text := "no such vertex") hx hb hl9 (hml.trans hl.1.symm) htw hown (by decide) cl_K_111 in_IllegalArgumentException hstr xw_115 hY.2.2.2.2.2.1 hY xg_115 hZ d_K_requireVertices_14 d_K_requireVertices_17 d_K_requireVertices_18 d_K_requireVertices_20 d_K_requireVertices_23 hout (Nat.le_of_ble_eq_true rfl) (Nat.le_of_ble_eq_true rfl) (Nat.le_of_ble_eq_true rfl) (Nat.le_of_ble_eq_true rfl) hlocks (⟨rfl, by rw [zI_0.mp hc]; rfl⟩) hP hK hD hS (Nat.le_of_ble_eq_true rfl) (Nat.le_of_ble_eq_true rfl)
  · refine lv_iload_n hx hb d_K_requireVertices_7 rfl (lv_at hl 1 rfl) ?_
    refine rk_backi (wc := []) (wr := []) (va_runS (As := [.int y]) (rest := []) ⟨hx, hb, hml, hown, htw⟩ (c_K_isVertex l dC dI cI cZ cJ _ y) (rk_cwS 1 htw gc_K_requireVertices_8 (by decide +kernel) ⟨(Nat.le_of_ble_eq_true rfl), (Nat.le_of_ble_eq_true rfl)⟩) (⟨rk_blind, rk_give (rk_psub (isC := []) hP rfl) hK (hD.sub [] rfl rfl)⟩) rfl rfl hl.1 rfl (lv_room (Nat.le_of_ble_eq_true rfl)) d_K_requireVertices_8 ⟨(Nat.le_of_ble_eq_true rfl), (Nat.le_of_ble_eq_true rfl)⟩) hP hD hS hA [] [] rfl rfl rfl (by decide) (fun x6 u6 H locs hp hP hD hS => ?_)
    subst hp
    have hP : va_P (dC, dI) classes [] H := hP
    have hD : va_D _ [] := hD
    refine lv_if_ne (tgt := 24) hx hb d_K_requireVertices_11 (by decide) (fun hc2 => ?_) (fun hc2 => ?_)
    · refine vx_ret (W.widen (k := 1) (n := 6) (by omega) (by omega) ?_)
      exact rk_vret (()) hx hb hr hlocks (by rw [zI_n.mp hc, zI_n.mp hc2]; rfl) rfl hP hK hD hS d_K_requireVertices_24
    · obtain ⟨sa, hstr⟩ := hY.1
      exact rk_throw (ik := 111) (is := 113) (ic := 115) (sa := sa) (cls := rk_IAE) (text := "no such vertex") hx hb hl9 (hml.trans hl.1.symm) htw hown (by decide) cl_K_111 in_IllegalArgumentException hstr xw_115 hY.2.2.2.2.2.1 hY xg_115 hZ d_K_requireVertices_14 d_K_requireVertices_17 d_K_requireVertices_18 d_K_requireVertices_20 d_K_requireVertices_23 hout (Nat.le_of_ble_eq_true rfl) (Nat.le_of_ble_eq_true rfl) (Nat.le_of_ble_eq_true rfl) (Nat.le_of_ble_eq_true rfl) hlocks (⟨rfl, by rw [zI_0.mp hc2]; exact Bool.and_false _⟩) hP hK hD hS (Nat.le_of_ble_eq_true rfl) (Nat.le_of_ble_eq_true rfl)
set_option maxHeartbeats 4000000 in
set_option maxRecDepth 100000 in
theorem c_K_requirePair (l : Launch) (hl9 : l.stackTraces = false) (dC : Nat → ClassId) (dI : Nat → Nat → Nat) (cI cZ cJ : ClassId) (sz : Nat) (x : Int32) : vx_Met l y_K_requirePair (.code y_K_requirePair b_K_requirePair 1 (some .int) :: WT) { frames := 6, cells := 1, slots := 6, locals := 82 } (va_Pc [.int x] (rk_preX (dC, dI) [(cI, .int), (cZ, .boolean), (cJ, .long)] sz [])) (va_Qi (fun (r : Int32) (u : Unit) => r = x ∧ x ≠ -1) (fun _ s9 => rk_at (dC, dI) [(cI, .int), (cZ, .boolean), (cJ, .long)] (va_A [] sz) [] s9) (va_A [] sz)) (rk_XC (dC, dI) [(cI, .int), (cZ, .boolean), (cJ, .long)] (va_A [] sz) [] (fun E => E = rk_NSE ∧ x = -1)) 1 6 (va_A [] sz) := by
  refine rk_bodyX (by decide) (Nat.le_of_ble_eq_true rfl) ?_
  intro p e s m below meth c hx hb hml hr htw hown hlocks hin hsz hP hK hD hA hS hY hZ hout ls hl
  have hown : s.vm.findClass R_K = some m.cls := hown
  have hl : lv_has ls 1 [(0, .int x)] := hl
  refine lv_iload_n hx hb d_K_requirePair_0 rfl (lv_at hl 0 rfl) ?_
  refine lv_iconst (v := -1) hx hb d_K_requirePair_1 (by decide) ?_
  refine lv_icmp_ne (tgt := 15) hx hb d_K_requirePair_2 (by decide) (fun hc => ?_) (fun hc => ?_)
  · refine lv_iload_n hx hb d_K_requirePair_15 rfl (lv_at hl 0 rfl) ?_
    refine vx_ret (W.widen (k := 1) (n := 6) (by omega) (by omega) ?_)
    exact rk_iret (()) hx hb hr hlocks (⟨rfl, hc⟩) rfl hP hK hD hS d_K_requirePair_16
  · obtain ⟨sa, hstr⟩ := hY.2.2.2.1
    exact rk_throwN (is := 116) (sa := sa) (text := "no such pair") hx hb hl9 (hml.trans hl.1.symm) htw hown cl_K_93 in_NoSuchElementException hstr hY.2.2.2.2.2.2.2.2.1 hY hZ d_K_requirePair_5 d_K_requirePair_8 d_K_requirePair_9 d_K_requirePair_11 d_K_requirePair_14 hout (Nat.le_of_ble_eq_true rfl) (Nat.le_of_ble_eq_true rfl) (Nat.le_of_ble_eq_true rfl) (Nat.le_of_ble_eq_true rfl) hlocks (⟨rfl, hc⟩) hP hK hD hS (Nat.le_of_ble_eq_true rfl) (Nat.le_of_ble_eq_true rfl)
set_option maxHeartbeats 4000000 in
set_option maxRecDepth 100000 in
theorem c_K_times (l : Launch) (hl9 : l.stackTraces = false) (dC : Nat → ClassId) (dI : Nat → Nat → Nat) (cI cZ cJ : ClassId) (sz : Nat) (h0 qt qe qs o1 o2 o3 o4 o5 : Nat) (g : Nat) (t : Nat → Int32) (x y : Int32) : vx_Met l y_K_times (.code y_K_times b_K_times 3 (some .int) :: WT) { frames := 7, cells := 1, slots := 6, locals := 103 } (va_Pc [.ref h0, .int x, .int y] (rk_preX (dC, dI) [(cI, .int), (cZ, .boolean), (cJ, .long)] sz [(h0, .inr (1, [.ref qt, .ref qe, .ref qs, .int (nI g), .ref o1, .ref o2, .ref o3, .ref o4, .ref o5])), (qt, .inl (cI, 1024, .inl t))])) (va_Qi (fun (r : Int32) (u : Unit) => ∃ a b, a < 32 ∧ b < 32 ∧ x = nI a ∧ y = nI b ∧ r = t (32 * a + b)) (fun _ s9 => rk_at (dC, dI) [(cI, .int), (cZ, .boolean), (cJ, .long)] (va_A [(h0, .inr (1, [.ref qt, .ref qe, .ref qs, .int (nI g), .ref o1, .ref o2, .ref o3, .ref o4, .ref o5])), (qt, .inl (cI, 1024, .inl t))] sz) [(h0, .inr (1, [.ref qt, .ref qe, .ref qs, .int (nI g), .ref o1, .ref o2, .ref o3, .ref o4, .ref o5])), (qt, .inl (cI, 1024, .inl t))] s9) (va_A [(h0, .inr (1, [.ref qt, .ref qe, .ref qs, .int (nI g), .ref o1, .ref o2, .ref o3, .ref o4, .ref o5])), (qt, .inl (cI, 1024, .inl t))] sz)) (rk_XC (dC, dI) [(cI, .int), (cZ, .boolean), (cJ, .long)] (va_A [(h0, .inr (1, [.ref qt, .ref qe, .ref qs, .int (nI g), .ref o1, .ref o2, .ref o3, .ref o4, .ref o5])), (qt, .inl (cI, 1024, .inl t))] sz) [(h0, .inr (1, [.ref qt, .ref qe, .ref qs, .int (nI g), .ref o1, .ref o2, .ref o3, .ref o4, .ref o5])), (qt, .inl (cI, 1024, .inl t))] (fun E => E = rk_IAE ∧ (rk_v x && rk_v y) = false)) 1 6 (va_A [(h0, .inr (1, [.ref qt, .ref qe, .ref qs, .int (nI g), .ref o1, .ref o2, .ref o3, .ref o4, .ref o5])), (qt, .inl (cI, 1024, .inl t))] sz) := by
  refine rk_bodyX (by decide) (Nat.le_of_ble_eq_true rfl) ?_
  intro p e s m below meth c hx hb hml hr htw hown hlocks hin hsz hP hK hD hA hS hY hZ hout ls hl
  have hown : s.vm.findClass R_K = some m.cls := hown
  have hl : lv_has ls 3 [(0, .ref h0), (1, .int x), (2, .int y)] := hl
  refine lv_iload_n hx hb d_K_times_0 rfl (lv_at hl 1 rfl) ?_
  refine lv_iload_n hx hb d_K_times_1 rfl (lv_at hl 2 rfl) ?_
  refine rk_xbackv (wc := []) (wr := [(h0, .inr (1, [.ref qt, .ref qe, .ref qs, .int (nI g), .ref o1, .ref o2, .ref o3, .ref o4, .ref o5])), (qt, .inl (cI, 1024, .inl t))]) (wx := []) (vx_runS (As := [.int x, .int y]) (rest := []) ⟨hx, hb, hml, hown, htw⟩ (c_K_requireVertices l hl9 dC dI cI cZ cJ _ x y) (rk_cwS 2 htw gc_K_times_2 (by decide +kernel) ⟨(Nat.le_of_ble_eq_true rfl), (Nat.le_of_ble_eq_true rfl)⟩) (⟨rk_blindX, rk_giveX [] hP hK hD hY hZ hS hA rfl rfl⟩) rfl rfl hl.1 rfl (lv_room (Nat.le_of_ble_eq_true rfl)) d_K_times_2 ⟨(Nat.le_of_ble_eq_true rfl), (Nat.le_of_ble_eq_true rfl)⟩) hP hD hS hA [] [0, 1] rfl rfl rfl (by decide) (fun E ce q9 H locs hpx hP hD hS hce hcv hcl => ?_) (fun u5 H locs hv hP hD hS => ?_)
  · have hP : va_P (dC, dI) classes [(h0, .inr (1, [.ref qt, .ref qe, .ref qs, .int (nI g), .ref o1, .ref o2, .ref o3, .ref o4, .ref o5])), (qt, .inl (cI, 1024, .inl t))] H := hP
    have hD : va_D _ [(h0, .inr (1, [.ref qt, .ref qe, .ref qs, .int (nI g), .ref o1, .ref o2, .ref o3, .ref o4, .ref o5])), (qt, .inl (cI, 1024, .inl t))] := hD
    exact rk_xout hout hlocks hce hcv hcl (hpx) hP hK hD hS (by omega) (by omega)
  have hP : va_P (dC, dI) classes [(h0, .inr (1, [.ref qt, .ref qe, .ref qs, .int (nI g), .ref o1, .ref o2, .ref o3, .ref o4, .ref o5])), (qt, .inl (cI, 1024, .inl t))] H := hP
  have hD : va_D _ [(h0, .inr (1, [.ref qt, .ref qe, .ref qs, .int (nI g), .ref o1, .ref o2, .ref o3, .ref o4, .ref o5])), (qt, .inl (cI, 1024, .inl t))] := hD
  rw [Bool.and_eq_true] at hv
  obtain ⟨a, ha, hxa⟩ := rk_v_t hv.1
  obtain ⟨b, hb32, hyb⟩ := rk_v_t hv.2
  have hl : lv_has ls 3 [(0, .ref h0), (1, .int (nI a)), (2, .int (nI b))] := by rw [← hxa, ← hyb]; exact hl
  refine lv_aload_n hx hb d_K_times_5 rfl (lv_at hl 0 rfl) ?_
  refine va_get (D := (dC, dI)) (ci := 1) (v := .ref qt) (C := R_K) (T := F_K) (N := 9) hx hb htw u_K hown hK hP 0 rfl rfl 0 (by decide) (htw _ l_K_9) (fun _ h9 => h9) rfl d_K_times_6 ?_
  refine lv_iload_n hx hb d_K_times_9 rfl (lv_at hl 1 rfl) ?_
  refine lv_iload_n hx hb d_K_times_10 rfl (lv_at hl 2 rfl) ?_
  refine rk_backi (wc := []) (wr := [(h0, .inr (1, [.ref qt, .ref qe, .ref qs, .int (nI g), .ref o1, .ref o2, .ref o3, .ref o4, .ref o5])), (qt, .inl (cI, 1024, .inl t))]) (va_runS (As := [.int (nI a), .int (nI b)]) (rest := [.ref qt]) ⟨hx, hb, hml, hown, htw⟩ (c_K_numberOf l dC dI cI cZ cJ _ a b) (rk_cwS 2 htw gc_K_times_11 (by decide +kernel) ⟨(Nat.le_of_ble_eq_true rfl), (Nat.le_of_ble_eq_true rfl)⟩) (⟨rk_blind, rk_give (rk_psub (isC := []) hP rfl) hK (hD.sub [] rfl rfl)⟩) rfl rfl hl.1 rfl (lv_room (Nat.le_of_ble_eq_true rfl)) d_K_times_11 ⟨(Nat.le_of_ble_eq_true rfl), (Nat.le_of_ble_eq_true rfl)⟩) hP hD hS hA [] [0, 1] rfl rfl rfl (by decide) (fun x6 u6 H locs hp hP hD hS => ?_)
  subst hp
  have hP : va_P (dC, dI) classes [(h0, .inr (1, [.ref qt, .ref qe, .ref qs, .int (nI g), .ref o1, .ref o2, .ref o3, .ref o4, .ref o5])), (qt, .inl (cI, 1024, .inl t))] H := hP
  have hD : va_D _ [(h0, .inr (1, [.ref qt, .ref qe, .ref qs, .int (nI g), .ref o1, .ref o2, .ref o3, .ref o4, .ref o5])), (qt, .inl (cI, 1024, .inl t))] := hD
  refine va_iald hx hb hK hP 1 0 rfl rfl (vp_in_nI (n := 32 * a + b) (show 32 * a + b < 1024 by omega) (by decide)) d_K_times_14 ?_
  refine rk_top (y := t (32 * a + b)) (congrArg t (nI_clamp (show 32 * a + b < 2 ^ 31 by omega))) ?_
  refine vx_ret (W.widen (k := 1) (n := 6) (by omega) (by omega) ?_)
  exact rk_iret (()) hx hb hr hlocks (⟨a, b, ha, hb32, hxa, hyb, rfl⟩) rfl hP hK hD hS d_K_times_15
set_option maxHeartbeats 4000000 in
set_option maxRecDepth 100000 in
theorem c_K_holds (l : Launch) (hl9 : l.stackTraces = false) (dC : Nat → ClassId) (dI : Nat → Nat → Nat) (cI cZ cJ : ClassId) (sz : Nat) (h0 qt qe qs o1 o2 o3 o4 o5 : Nat) (g : Nat) (q2 : Nat) (r2 : Nat → Int32) (h : Nat → Bool) (hR2 : rk_R r2 h) (x y : Int32) : vx_Met l y_K_holds (.code y_K_holds b_K_holds 3 (some .boolean) :: WT) { frames := 7, cells := 1, slots := 6, locals := 103 } (va_Pc [.ref h0, .int x, .int y] (rk_preX (dC, dI) [(cI, .int), (cZ, .boolean), (cJ, .long)] sz [(h0, .inr (1, [.ref qt, .ref qe, .ref qs, .int (nI g), .ref o1, .ref o2, .ref o3, .ref o4, .ref o5])), (o2, .inr (0, [.ref q2])), (q2, .inl (cI, 32, .inl r2))])) (va_Qi (fun (r : Int32) (u : Unit) => ∃ a b, a < 32 ∧ b < 32 ∧ x = nI a ∧ y = nI b ∧ r = zI (h (32 * a + b))) (fun _ s9 => rk_at (dC, dI) [(cI, .int), (cZ, .boolean), (cJ, .long)] (va_A [(h0, .inr (1, [.ref qt, .ref qe, .ref qs, .int (nI g), .ref o1, .ref o2, .ref o3, .ref o4, .ref o5])), (o2, .inr (0, [.ref q2])), (q2, .inl (cI, 32, .inl r2))] sz) [(h0, .inr (1, [.ref qt, .ref qe, .ref qs, .int (nI g), .ref o1, .ref o2, .ref o3, .ref o4, .ref o5])), (o2, .inr (0, [.ref q2])), (q2, .inl (cI, 32, .inl r2))] s9) (va_A [(h0, .inr (1, [.ref qt, .ref qe, .ref qs, .int (nI g), .ref o1, .ref o2, .ref o3, .ref o4, .ref o5])), (o2, .inr (0, [.ref q2])), (q2, .inl (cI, 32, .inl r2))] sz)) (rk_XC (dC, dI) [(cI, .int), (cZ, .boolean), (cJ, .long)] (va_A [(h0, .inr (1, [.ref qt, .ref qe, .ref qs, .int (nI g), .ref o1, .ref o2, .ref o3, .ref o4, .ref o5])), (o2, .inr (0, [.ref q2])), (q2, .inl (cI, 32, .inl r2))] sz) [(h0, .inr (1, [.ref qt, .ref qe, .ref qs, .int (nI g), .ref o1, .ref o2, .ref o3, .ref o4, .ref o5])), (o2, .inr (0, [.ref q2])), (q2, .inl (cI, 32, .inl r2))] (fun E => E = rk_IAE ∧ (rk_v x && rk_v y) = false)) 1 6 (va_A [(h0, .inr (1, [.ref qt, .ref qe, .ref qs, .int (nI g), .ref o1, .ref o2, .ref o3, .ref o4, .ref o5])), (o2, .inr (0, [.ref q2])), (q2, .inl (cI, 32, .inl r2))] sz) := by
  refine rk_bodyX (by decide) (Nat.le_of_ble_eq_true rfl) ?_
  intro p e s m below meth c hx hb hml hr htw hown hlocks hin hsz hP hK hD hA hS hY hZ hout ls hl
  have hown : s.vm.findClass R_K = some m.cls := hown
  have hl : lv_has ls 3 [(0, .ref h0), (1, .int x), (2, .int y)] := hl
  refine lv_iload_n hx hb d_K_holds_0 rfl (lv_at hl 1 rfl) ?_
  refine lv_iload_n hx hb d_K_holds_1 rfl (lv_at hl 2 rfl) ?_
  refine rk_xbackv (wc := []) (wr := [(h0, .inr (1, [.ref qt, .ref qe, .ref qs, .int (nI g), .ref o1, .ref o2, .ref o3, .ref o4, .ref o5])), (o2, .inr (0, [.ref q2])), (q2, .inl (cI, 32, .inl r2))]) (wx := []) (vx_runS (As := [.int x, .int y]) (rest := []) ⟨hx, hb, hml, hown, htw⟩ (c_K_requireVertices l hl9 dC dI cI cZ cJ _ x y) (rk_cwS 2 htw gc_K_holds_2 (by decide +kernel) ⟨(Nat.le_of_ble_eq_true rfl), (Nat.le_of_ble_eq_true rfl)⟩) (⟨rk_blindX, rk_giveX [] hP hK hD hY hZ hS hA rfl rfl⟩) rfl rfl hl.1 rfl (lv_room (Nat.le_of_ble_eq_true rfl)) d_K_holds_2 ⟨(Nat.le_of_ble_eq_true rfl), (Nat.le_of_ble_eq_true rfl)⟩) hP hD hS hA [] [0, 1, 2] rfl rfl rfl (by decide) (fun E ce q9 H locs hpx hP hD hS hce hcv hcl => ?_) (fun u5 H locs hv hP hD hS => ?_)
  · have hP : va_P (dC, dI) classes [(h0, .inr (1, [.ref qt, .ref qe, .ref qs, .int (nI g), .ref o1, .ref o2, .ref o3, .ref o4, .ref o5])), (o2, .inr (0, [.ref q2])), (q2, .inl (cI, 32, .inl r2))] H := hP
    have hD : va_D _ [(h0, .inr (1, [.ref qt, .ref qe, .ref qs, .int (nI g), .ref o1, .ref o2, .ref o3, .ref o4, .ref o5])), (o2, .inr (0, [.ref q2])), (q2, .inl (cI, 32, .inl r2))] := hD
    exact rk_xout hout hlocks hce hcv hcl (hpx) hP hK hD hS (by omega) (by omega)
  have hP : va_P (dC, dI) classes [(h0, .inr (1, [.ref qt, .ref qe, .ref qs, .int (nI g), .ref o1, .ref o2, .ref o3, .ref o4, .ref o5])), (o2, .inr (0, [.ref q2])), (q2, .inl (cI, 32, .inl r2))] H := hP
  have hD : va_D _ [(h0, .inr (1, [.ref qt, .ref qe, .ref qs, .int (nI g), .ref o1, .ref o2, .ref o3, .ref o4, .ref o5])), (o2, .inr (0, [.ref q2])), (q2, .inl (cI, 32, .inl r2))] := hD
  rw [Bool.and_eq_true] at hv
  obtain ⟨a, ha, hxa⟩ := rk_v_t hv.1
  obtain ⟨b, hb32, hyb⟩ := rk_v_t hv.2
  have hl : lv_has ls 3 [(0, .ref h0), (1, .int (nI a)), (2, .int (nI b))] := by rw [← hxa, ← hyb]; exact hl
  refine lv_aload_n hx hb d_K_holds_5 rfl (lv_at hl 0 rfl) ?_
  refine va_get (D := (dC, dI)) (ci := 1) (v := .ref o2) (C := R_K) (T := F_K) (N := 9) hx hb htw u_K hown hK hP 0 rfl rfl 5 (by decide) (htw _ l_K_30) (fun _ h9 => h9) rfl d_K_holds_6 ?_
  refine lv_iload_n hx hb d_K_holds_9 rfl (lv_at hl 1 rfl) ?_
  refine lv_iload_n hx hb d_K_holds_10 rfl (lv_at hl 2 rfl) ?_
  refine rk_backi (wc := [(o2, .inr (0, [.ref q2])), (q2, .inl (cI, 32, .inl r2))]) (wr := [(h0, .inr (1, [.ref qt, .ref qe, .ref qs, .int (nI g), .ref o1, .ref o2, .ref o3, .ref o4, .ref o5]))]) (va_runV (As := [.int (nI a), .int (nI b)]) (rest := []) ⟨hx, hb, hml, hown, htw⟩ (c_P_has l dC dI cI cZ cJ _ o2 q2 r2 a b ha hb32) (rk_cwV 2 htw gc_K_holds_11 (by decide +kernel) ⟨(Nat.le_of_ble_eq_true rfl), (Nat.le_of_ble_eq_true rfl)⟩) (⟨rk_blind, va_recv hK hP (ci := 0) rfl (q0 := 1) rfl, rk_give (rk_psub (isC := [1, 2]) hP rfl) hK (hD.sub [1, 2] rfl rfl)⟩) rfl rfl hl.1 rfl (lv_room (Nat.le_of_ble_eq_true rfl)) d_K_holds_11 ⟨(Nat.le_of_ble_eq_true rfl), (Nat.le_of_ble_eq_true rfl)⟩) hP hD hS hA [1, 2] [0] rfl rfl rfl (by decide) (fun x6 u6 H locs hp hP hD hS => ?_)
  subst hp
  have hP : va_P (dC, dI) classes [(h0, .inr (1, [.ref qt, .ref qe, .ref qs, .int (nI g), .ref o1, .ref o2, .ref o3, .ref o4, .ref o5])), (o2, .inr (0, [.ref q2])), (q2, .inl (cI, 32, .inl r2))] H := hP
  have hD : va_D _ [(h0, .inr (1, [.ref qt, .ref qe, .ref qs, .int (nI g), .ref o1, .ref o2, .ref o3, .ref o4, .ref o5])), (o2, .inr (0, [.ref q2])), (q2, .inl (cI, 32, .inl r2))] := hD
  refine vx_ret (W.widen (k := 1) (n := 6) (by omega) (by omega) ?_)
  exact rk_zret (()) hx hb hr hlocks (⟨a, b, ha, hb32, hxa, hyb, by rw [hR2 a ha b hb32]⟩) rfl hP hK hD hS d_K_holds_14
set_option maxHeartbeats 4000000 in
set_option maxRecDepth 100000 in
theorem c_K_distance (l : Launch) (hl9 : l.stackTraces = false) (dC : Nat → ClassId) (dI : Nat → Nat → Nat) (cI cZ cJ : ClassId) (sz : Nat) (h0 qt qe qs o1 o2 o3 o4 o5 : Nat) (g : Nat) (q1 : Nat) (r1 : Nat → Int32) (e0 : Nat → Bool) (hR1 : rk_R r1 e0) (x y : Int32) : vx_Met l y_K_distance (.code y_K_distance b_K_distance 4 (some .int) :: WT) { frames := 7, cells := 2, slots := 12, locals := 103 } (va_Pc [.ref h0, .int x, .int y] (rk_preX (dC, dI) [(cI, .int), (cZ, .boolean), (cJ, .long)] sz [(h0, .inr (1, [.ref qt, .ref qe, .ref qs, .int (nI g), .ref o1, .ref o2, .ref o3, .ref o4, .ref o5])), (o1, .inr (0, [.ref q1])), (q1, .inl (cI, 32, .inl r1))])) (va_Qi (fun (r : Int32) (u : Unit) => ∃ a b k, a < 32 ∧ b < 32 ∧ x = nI a ∧ y = nI b ∧ k < 32 ∧ rk_w e0 a k b = true ∧ (∀ j, j < k → rk_w e0 a j b = false) ∧ r = nI (k + 1)) (fun _ s9 => rk_at (dC, dI) [(cI, .int), (cZ, .boolean), (cJ, .long)] (va_A [(h0, .inr (1, [.ref qt, .ref qe, .ref qs, .int (nI g), .ref o1, .ref o2, .ref o3, .ref o4, .ref o5])), (o1, .inr (0, [.ref q1])), (q1, .inl (cI, 32, .inl r1))] sz) [(h0, .inr (1, [.ref qt, .ref qe, .ref qs, .int (nI g), .ref o1, .ref o2, .ref o3, .ref o4, .ref o5])), (o1, .inr (0, [.ref q1])), (q1, .inl (cI, 32, .inl r1))] s9) (va_A [(h0, .inr (1, [.ref qt, .ref qe, .ref qs, .int (nI g), .ref o1, .ref o2, .ref o3, .ref o4, .ref o5])), (o1, .inr (0, [.ref q1])), (q1, .inl (cI, 32, .inl r1))] sz)) (rk_XC (dC, dI) [(cI, .int), (cZ, .boolean), (cJ, .long)] (va_A [(h0, .inr (1, [.ref qt, .ref qe, .ref qs, .int (nI g), .ref o1, .ref o2, .ref o3, .ref o4, .ref o5])), (o1, .inr (0, [.ref q1])), (q1, .inl (cI, 32, .inl r1))] sz) [(h0, .inr (1, [.ref qt, .ref qe, .ref qs, .int (nI g), .ref o1, .ref o2, .ref o3, .ref o4, .ref o5])), (o1, .inr (0, [.ref q1])), (q1, .inl (cI, 32, .inl r1))] (fun E => (E = rk_IAE ∧ (rk_v x && rk_v y) = false) ∨ (E = rk_NSE ∧ ∃ a b, a < 32 ∧ b < 32 ∧ x = nI a ∧ y = nI b ∧ ∀ k, k < 32 → rk_w e0 a k b = false))) 2 12 (va_A [(h0, .inr (1, [.ref qt, .ref qe, .ref qs, .int (nI g), .ref o1, .ref o2, .ref o3, .ref o4, .ref o5])), (o1, .inr (0, [.ref q1])), (q1, .inl (cI, 32, .inl r1))] sz) := by
  refine rk_bodyX (by decide) (Nat.le_of_ble_eq_true rfl) ?_
  intro p e s m below meth c hx hb hml hr htw hown hlocks hin hsz hP hK hD hA hS hY hZ hout ls hl
  have hown : s.vm.findClass R_K = some m.cls := hown
  have hl : lv_has ls 4 [(0, .ref h0), (1, .int x), (2, .int y)] := hl
  refine lv_iload_n hx hb d_K_distance_0 rfl (lv_at hl 1 rfl) ?_
  refine lv_iload_n hx hb d_K_distance_1 rfl (lv_at hl 2 rfl) ?_
  refine rk_xbackv (wc := []) (wr := [(h0, .inr (1, [.ref qt, .ref qe, .ref qs, .int (nI g), .ref o1, .ref o2, .ref o3, .ref o4, .ref o5])), (o1, .inr (0, [.ref q1])), (q1, .inl (cI, 32, .inl r1))]) (wx := []) (vx_runS (As := [.int x, .int y]) (rest := []) ⟨hx, hb, hml, hown, htw⟩ (c_K_requireVertices l hl9 dC dI cI cZ cJ _ x y) (rk_cwS 2 htw gc_K_distance_2 (by decide +kernel) ⟨(Nat.le_of_ble_eq_true rfl), (Nat.le_of_ble_eq_true rfl)⟩) (⟨rk_blindX, rk_giveX [] hP hK hD hY hZ hS hA rfl rfl⟩) rfl rfl hl.1 rfl (lv_room (Nat.le_of_ble_eq_true rfl)) d_K_distance_2 ⟨(Nat.le_of_ble_eq_true rfl), (Nat.le_of_ble_eq_true rfl)⟩) hP hD hS hA [] [0, 1, 2] rfl rfl rfl (by decide) (fun E ce q9 H locs hpx hP hD hS hce hcv hcl => ?_) (fun u5 H locs hv hP hD hS => ?_)
  · have hP : va_P (dC, dI) classes [(h0, .inr (1, [.ref qt, .ref qe, .ref qs, .int (nI g), .ref o1, .ref o2, .ref o3, .ref o4, .ref o5])), (o1, .inr (0, [.ref q1])), (q1, .inl (cI, 32, .inl r1))] H := hP
    have hD : va_D _ [(h0, .inr (1, [.ref qt, .ref qe, .ref qs, .int (nI g), .ref o1, .ref o2, .ref o3, .ref o4, .ref o5])), (o1, .inr (0, [.ref q1])), (q1, .inl (cI, 32, .inl r1))] := hD
    exact rk_xout hout hlocks hce hcv hcl (Or.inl hpx) hP hK hD hS (by omega) (by omega)
  have hP : va_P (dC, dI) classes [(h0, .inr (1, [.ref qt, .ref qe, .ref qs, .int (nI g), .ref o1, .ref o2, .ref o3, .ref o4, .ref o5])), (o1, .inr (0, [.ref q1])), (q1, .inl (cI, 32, .inl r1))] H := hP
  have hD : va_D _ [(h0, .inr (1, [.ref qt, .ref qe, .ref qs, .int (nI g), .ref o1, .ref o2, .ref o3, .ref o4, .ref o5])), (o1, .inr (0, [.ref q1])), (q1, .inl (cI, 32, .inl r1))] := hD
  rw [Bool.and_eq_true] at hv
  obtain ⟨a, ha, hxa⟩ := rk_v_t hv.1
  obtain ⟨b, hb32, hyb⟩ := rk_v_t hv.2
  have hl : lv_has ls 4 [(0, .ref h0), (1, .int (nI a)), (2, .int (nI b))] := by rw [← hxa, ← hyb]; exact hl
  refine lv_aload_n hx hb d_K_distance_5 rfl (lv_at hl 0 rfl) ?_
  refine va_get (D := (dC, dI)) (ci := 1) (v := .ref o1) (C := R_K) (T := F_K) (N := 9) hx hb htw u_K hown hK hP 0 rfl rfl 4 (by decide) (htw _ l_K_26) (fun _ h9 => h9) rfl d_K_distance_6 ?_
  refine lv_iload_n hx hb d_K_distance_9 rfl (lv_at hl 1 rfl) ?_
  refine lv_iload_n hx hb d_K_distance_10 rfl (lv_at hl 2 rfl) ?_
  refine rk_backi (wc := [(o1, .inr (0, [.ref q1])), (q1, .inl (cI, 32, .inl r1))]) (wr := [(h0, .inr (1, [.ref qt, .ref qe, .ref qs, .int (nI g), .ref o1, .ref o2, .ref o3, .ref o4, .ref o5]))]) (va_runV (As := [.int (nI a), .int (nI b)]) (rest := []) ⟨hx, hb, hml, hown, htw⟩ (c_P_shortestWay l dC dI cI cZ cJ _ o1 q1 r1 e0 hR1 a b ha hb32) (rk_cwV 2 htw gc_K_distance_11 (by decide +kernel) ⟨(Nat.le_of_ble_eq_true rfl), (Nat.le_of_ble_eq_true rfl)⟩) (⟨rk_blind, va_recv hK hP (ci := 0) rfl (q0 := 1) rfl, rk_give (rk_psub (isC := [1, 2]) hP rfl) hK (hD.sub [1, 2] rfl rfl)⟩) rfl rfl hl.1 rfl (lv_room (Nat.le_of_ble_eq_true rfl)) d_K_distance_11 ⟨(Nat.le_of_ble_eq_true rfl), (Nat.le_of_ble_eq_true rfl)⟩) hP hD hS hA [1, 2] [0] rfl rfl rfl (by decide) (fun z6 u6 H locs hp6 hP hD hS => ?_)
  have hP : va_P (dC, dI) classes [(h0, .inr (1, [.ref qt, .ref qe, .ref qs, .int (nI g), .ref o1, .ref o2, .ref o3, .ref o4, .ref o5])), (o1, .inr (0, [.ref q1])), (q1, .inl (cI, 32, .inl r1))] H := hP
  have hD : va_D _ [(h0, .inr (1, [.ref qt, .ref qe, .ref qs, .int (nI g), .ref o1, .ref o2, .ref o3, .ref o4, .ref o5])), (o1, .inr (0, [.ref q1])), (q1, .inl (cI, 32, .inl r1))] := hD
  refine lv_istore_n (lv' := [(3, .int z6), (0, .ref h0), (1, .int (nI a)), (2, .int (nI b))]) hx hb d_K_distance_14 rfl hl (by decide) rfl (fun ls hl => ?_)
  refine lv_iload_n hx hb d_K_distance_15 rfl (lv_at hl 0 rfl) ?_
  refine lv_iconst (v := -1) hx hb d_K_distance_16 (by decide) ?_
  refine lv_icmp_ne (tgt := 30) hx hb d_K_distance_17 (by decide) (fun hc => ?_) (fun hc => ?_)
  · obtain ⟨k, hk1, hk2, hk3, hk4⟩ : ∃ k, k < 32 ∧ rk_w e0 a k b = true ∧ (∀ j, j < k → rk_w e0 a j b = false) ∧ z6 = nI (k + 1) := by rcases hp6 with z9 | z9; exact z9; exact absurd z9.2 hc
    refine lv_iload_n hx hb d_K_distance_30 rfl (lv_at hl 0 rfl) ?_
    refine vx_ret (W.widen (k := 2) (n := 12) (by omega) (by omega) ?_)
    exact rk_iret (()) hx hb hr hlocks (⟨a, b, k, ha, hb32, hxa, hyb, hk1, hk2, hk3, hk4⟩) rfl hP hK hD hS d_K_distance_31
  · have hnone : ∀ k, k < 32 → rk_w e0 a k b = false := by rcases hp6 with ⟨k, hk1, hk2, hk3, hk4⟩ | z9; exact absurd (hk4.symm.trans hc) (rk_nI_ne (k + 1) (by omega)); exact z9.1
    obtain ⟨sa, hstr⟩ := hY.2.2.2.2.1
    exact rk_throwN (is := 95) (sa := sa) (text := "no way leads there") hx hb hl9 (hml.trans hl.1.symm) htw hown cl_K_93 in_NoSuchElementException hstr hY.2.2.2.2.2.2.2.2.1 hY hZ d_K_distance_20 d_K_distance_23 d_K_distance_24 d_K_distance_26 d_K_distance_29 hout (Nat.le_of_ble_eq_true rfl) (Nat.le_of_ble_eq_true rfl) (Nat.le_of_ble_eq_true rfl) (Nat.le_of_ble_eq_true rfl) hlocks (Or.inr ⟨rfl, a, b, ha, hb32, hxa, hyb, hnone⟩) hP hK hD hS (Nat.le_of_ble_eq_true rfl) (Nat.le_of_ble_eq_true rfl)
set_option maxHeartbeats 4000000 in
set_option maxRecDepth 100000 in
theorem c_K_change (l : Launch) (hl9 : l.stackTraces = false) (dC : Nat → ClassId) (dI : Nat → Nat → Nat) (cI cZ cJ : ClassId) (sz : Nat) (h0 qt qe qs o1 o2 o3 o4 o5 : Nat) (g : Nat) (hg : g ≤ 60) (ge gs : Nat → Int32) (x y : Int32) (z : Bool) : vx_Met l y_K_change (.code y_K_change b_K_change 5 (some .int) :: WT) { frames := 7, cells := 2, slots := 12, locals := 103 } (va_Pc [.ref h0, .int x, .int y, .int (zI z)] (rk_preX (dC, dI) [(cI, .int), (cZ, .boolean), (cJ, .long)] sz [(h0, .inr (1, [.ref qt, .ref qe, .ref qs, .int (nI g), .ref o1, .ref o2, .ref o3, .ref o4, .ref o5])), (qe, .inl (cI, 60, .inl ge)), (qs, .inl (cI, 1024, .inl gs))])) (va_Qi (fun (r : Int32) (u : (Nat → Int32) × (Nat → Int32)) => ∃ a b, a < 32 ∧ b < 32 ∧ x = nI a ∧ y = nI b ∧ g < 60 ∧ u = (upd ge g (nI (32 * a + b)), upd gs (32 * a + b) (gs (32 * a + b) + rk_sg z)) ∧ r = nI (g + 1)) (fun u s9 => rk_at (dC, dI) [(cI, .int), (cZ, .boolean), (cJ, .long)] (va_A [(h0, .inr (1, [.ref qt, .ref qe, .ref qs, .int (nI g), .ref o1, .ref o2, .ref o3, .ref o4, .ref o5])), (qe, .inl (cI, 60, .inl ge)), (qs, .inl (cI, 1024, .inl gs))] sz) [(h0, .inr (1, [.ref qt, .ref qe, .ref qs, .int (nI (g + 1)), .ref o1, .ref o2, .ref o3, .ref o4, .ref o5])), (qe, .inl (cI, 60, .inl u.1)), (qs, .inl (cI, 1024, .inl u.2))] s9) (va_A [(h0, .inr (1, [.ref qt, .ref qe, .ref qs, .int (nI g), .ref o1, .ref o2, .ref o3, .ref o4, .ref o5])), (qe, .inl (cI, 60, .inl ge)), (qs, .inl (cI, 1024, .inl gs))] sz)) (rk_XC (dC, dI) [(cI, .int), (cZ, .boolean), (cJ, .long)] (va_A [(h0, .inr (1, [.ref qt, .ref qe, .ref qs, .int (nI g), .ref o1, .ref o2, .ref o3, .ref o4, .ref o5])), (qe, .inl (cI, 60, .inl ge)), (qs, .inl (cI, 1024, .inl gs))] sz) [(h0, .inr (1, [.ref qt, .ref qe, .ref qs, .int (nI g), .ref o1, .ref o2, .ref o3, .ref o4, .ref o5])), (qe, .inl (cI, 60, .inl ge)), (qs, .inl (cI, 1024, .inl gs))] (fun E => (E = rk_IAE ∧ (rk_v x && rk_v y) = false) ∨ (E = rk_IOO ∧ (rk_v x && rk_v y) = true ∧ g = 60))) 2 12 (va_A [(h0, .inr (1, [.ref qt, .ref qe, .ref qs, .int (nI g), .ref o1, .ref o2, .ref o3, .ref o4, .ref o5])), (qe, .inl (cI, 60, .inl ge)), (qs, .inl (cI, 1024, .inl gs))] sz) := by
  refine rk_bodyX (by decide) (Nat.le_of_ble_eq_true rfl) ?_
  intro p e s m below meth c hx hb hml hr htw hown hlocks hin hsz hP hK hD hA hS hY hZ hout ls hl
  have hown : s.vm.findClass R_K = some m.cls := hown
  have hl : lv_has ls 5 [(0, .ref h0), (1, .int x), (2, .int y), (3, .int (zI z))] := hl
  refine lv_iload_n hx hb d_K_change_0 rfl (lv_at hl 1 rfl) ?_
  refine lv_iload_n hx hb d_K_change_1 rfl (lv_at hl 2 rfl) ?_
  refine rk_xbackv (wc := []) (wr := [(h0, .inr (1, [.ref qt, .ref qe, .ref qs, .int (nI g), .ref o1, .ref o2, .ref o3, .ref o4, .ref o5])), (qe, .inl (cI, 60, .inl ge)), (qs, .inl (cI, 1024, .inl gs))]) (wx := []) (vx_runS (As := [.int x, .int y]) (rest := []) ⟨hx, hb, hml, hown, htw⟩ (c_K_requireVertices l hl9 dC dI cI cZ cJ _ x y) (rk_cwS 2 htw gc_K_change_2 (by decide +kernel) ⟨(Nat.le_of_ble_eq_true rfl), (Nat.le_of_ble_eq_true rfl)⟩) (⟨rk_blindX, rk_giveX [] hP hK hD hY hZ hS hA rfl rfl⟩) rfl rfl hl.1 rfl (lv_room (Nat.le_of_ble_eq_true rfl)) d_K_change_2 ⟨(Nat.le_of_ble_eq_true rfl), (Nat.le_of_ble_eq_true rfl)⟩) hP hD hS hA [] [0, 1, 2] rfl rfl rfl (by decide) (fun E ce q9 H locs hpx hP hD hS hce hcv hcl => ?_) (fun u5 H locs hv hP hD hS => ?_)
  · have hP : va_P (dC, dI) classes [(h0, .inr (1, [.ref qt, .ref qe, .ref qs, .int (nI g), .ref o1, .ref o2, .ref o3, .ref o4, .ref o5])), (qe, .inl (cI, 60, .inl ge)), (qs, .inl (cI, 1024, .inl gs))] H := hP
    have hD : va_D _ [(h0, .inr (1, [.ref qt, .ref qe, .ref qs, .int (nI g), .ref o1, .ref o2, .ref o3, .ref o4, .ref o5])), (qe, .inl (cI, 60, .inl ge)), (qs, .inl (cI, 1024, .inl gs))] := hD
    exact rk_xout hout hlocks hce hcv hcl (Or.inl hpx) hP hK hD hS (by omega) (by omega)
  have hP : va_P (dC, dI) classes [(h0, .inr (1, [.ref qt, .ref qe, .ref qs, .int (nI g), .ref o1, .ref o2, .ref o3, .ref o4, .ref o5])), (qe, .inl (cI, 60, .inl ge)), (qs, .inl (cI, 1024, .inl gs))] H := hP
  have hD : va_D _ [(h0, .inr (1, [.ref qt, .ref qe, .ref qs, .int (nI g), .ref o1, .ref o2, .ref o3, .ref o4, .ref o5])), (qe, .inl (cI, 60, .inl ge)), (qs, .inl (cI, 1024, .inl gs))] := hD
  rw [Bool.and_eq_true] at hv
  obtain ⟨a, ha, hxa⟩ := rk_v_t hv.1
  obtain ⟨b, hb32, hyb⟩ := rk_v_t hv.2
  have hl : lv_has ls 5 [(0, .ref h0), (1, .int (nI a)), (2, .int (nI b)), (3, .int (zI z))] := by rw [← hxa, ← hyb]; exact hl
  refine lv_aload_n hx hb d_K_change_5 rfl (lv_at hl 0 rfl) ?_
  refine va_get (D := (dC, dI)) (ci := 1) (v := .int (nI g)) (C := R_K) (T := F_K) (N := 9) hx hb htw u_K hown hK hP 0 rfl rfl 3 (by decide) (htw _ l_K_19) (fun _ h9 => h9) rfl d_K_change_6 ?_
  refine lv_bipush (v := nI 60) hx hb d_K_change_9 (by decide) ?_
  refine lv_icmp_lt (tgt := 24) hx hb d_K_change_11 (by decide) (fun hc => ?_) (fun hc => ?_)
  · have hc := (nI_ltI (by omega) (by omega)).mp hc
    refine lv_iload_n hx hb d_K_change_24 rfl (lv_at hl 1 rfl) ?_
    refine lv_iload_n hx hb d_K_change_25 rfl (lv_at hl 2 rfl) ?_
    refine rk_backi (wc := []) (wr := [(h0, .inr (1, [.ref qt, .ref qe, .ref qs, .int (nI g), .ref o1, .ref o2, .ref o3, .ref o4, .ref o5])), (qe, .inl (cI, 60, .inl ge)), (qs, .inl (cI, 1024, .inl gs))]) (va_runS (As := [.int (nI a), .int (nI b)]) (rest := []) ⟨hx, hb, hml, hown, htw⟩ (c_K_numberOf l dC dI cI cZ cJ _ a b) (rk_cwS 2 htw gc_K_change_26 (by decide +kernel) ⟨(Nat.le_of_ble_eq_true rfl), (Nat.le_of_ble_eq_true rfl)⟩) (⟨rk_blind, rk_give (rk_psub (isC := []) hP rfl) hK (hD.sub [] rfl rfl)⟩) rfl rfl hl.1 rfl (lv_room (Nat.le_of_ble_eq_true rfl)) d_K_change_26 ⟨(Nat.le_of_ble_eq_true rfl), (Nat.le_of_ble_eq_true rfl)⟩) hP hD hS hA [] [0, 1, 2] rfl rfl rfl (by decide) (fun x6 u6 H locs hp hP hD hS => ?_)
    subst hp
    have hP : va_P (dC, dI) classes [(h0, .inr (1, [.ref qt, .ref qe, .ref qs, .int (nI g), .ref o1, .ref o2, .ref o3, .ref o4, .ref o5])), (qe, .inl (cI, 60, .inl ge)), (qs, .inl (cI, 1024, .inl gs))] H := hP
    have hD : va_D _ [(h0, .inr (1, [.ref qt, .ref qe, .ref qs, .int (nI g), .ref o1, .ref o2, .ref o3, .ref o4, .ref o5])), (qe, .inl (cI, 60, .inl ge)), (qs, .inl (cI, 1024, .inl gs))] := hD
    refine lv_istore (lv' := [(4, .int (nI (32 * a + b))), (0, .ref h0), (1, .int (nI a)), (2, .int (nI b)), (3, .int (zI z))]) hx hb d_K_change_29 hl (by decide) rfl (fun ls hl => ?_)
    refine lv_aload_n hx hb d_K_change_31 rfl (lv_at hl 1 rfl) ?_
    refine va_get (D := (dC, dI)) (ci := 1) (v := .ref qe) (C := R_K) (T := F_K) (N := 9) hx hb htw u_K hown hK hP 0 rfl rfl 1 (by decide) (htw _ l_K_13) (fun _ h9 => h9) rfl d_K_change_32 ?_
    refine lv_aload_n hx hb d_K_change_35 rfl (lv_at hl 1 rfl) ?_
    refine va_get (D := (dC, dI)) (ci := 1) (v := .int (nI g)) (C := R_K) (T := F_K) (N := 9) hx hb htw u_K hown hK hP 0 rfl rfl 3 (by decide) (htw _ l_K_19) (fun _ h9 => h9) rfl d_K_change_36 ?_
    refine lv_iload hx hb d_K_change_39 (lv_at hl 0 rfl) ?_
    refine va_iast hx hb hK hP hD hS 1 0 rfl rfl (vp_in_nI (n := g) (show g < 60 by omega) (by decide)) d_K_change_41 (fun H locs hP hD hS => ?_)
    rw [nI_clamp (show g < 2 ^ 31 by omega)] at hP hD
    have hP : va_P (dC, dI) classes [(h0, .inr (1, [.ref qt, .ref qe, .ref qs, .int (nI g), .ref o1, .ref o2, .ref o3, .ref o4, .ref o5])), (qe, .inl (cI, 60, .inl (upd ge g (nI (32 * a + b))))), (qs, .inl (cI, 1024, .inl gs))] H := hP
    have hD : va_D _ [(h0, .inr (1, [.ref qt, .ref qe, .ref qs, .int (nI g), .ref o1, .ref o2, .ref o3, .ref o4, .ref o5])), (qe, .inl (cI, 60, .inl (upd ge g (nI (32 * a + b))))), (qs, .inl (cI, 1024, .inl gs))] := hD
    refine lv_aload_n hx hb d_K_change_42 rfl (lv_at hl 1 rfl) ?_
    refine va_get (D := (dC, dI)) (ci := 1) (v := .ref qs) (C := R_K) (T := F_K) (N := 9) hx hb htw u_K hown hK hP 0 rfl rfl 2 (by decide) (htw _ l_K_16) (fun _ h9 => h9) rfl d_K_change_43 ?_
    refine lv_iload hx hb d_K_change_46 (lv_at hl 0 rfl) ?_
    refine lv_dup2_11 hx hb d_K_change_48 rfl rfl ?_
    refine va_iald hx hb hK hP 2 0 rfl rfl (vp_in_nI (n := 32 * a + b) (show 32 * a + b < 1024 by omega) (by decide)) d_K_change_49 ?_
    refine rk_top (y := gs (32 * a + b)) (congrArg gs (nI_clamp (show 32 * a + b < 2 ^ 31 by omega))) ?_
    refine lv_iload_n hx hb d_K_change_50 rfl (lv_at hl 4 rfl) ?_
    refine lv_if_eq (tgt := 58) hx hb d_K_change_51 (by decide) (fun hd2 => ?_) (fun hd2 => ?_)
    · have hd2 := zI_0.mp hd2
      subst hd2
      refine lv_iconst (v := -1) hx hb d_K_change_58 (by decide) ?_
      refine lv_iadd hx hb d_K_change_59 ?_
      refine va_iast hx hb hK hP hD hS 2 0 rfl rfl (vp_in_nI (n := 32 * a + b) (show 32 * a + b < 1024 by omega) (by decide)) d_K_change_60 (fun H locs hP hD hS => ?_)
      rw [nI_clamp (show 32 * a + b < 2 ^ 31 by omega)] at hP hD
      have hP : va_P (dC, dI) classes [(h0, .inr (1, [.ref qt, .ref qe, .ref qs, .int (nI g), .ref o1, .ref o2, .ref o3, .ref o4, .ref o5])), (qe, .inl (cI, 60, .inl (upd ge g (nI (32 * a + b))))), (qs, .inl (cI, 1024, .inl (upd gs (32 * a + b) ((gs (32 * a + b)) + (-1)))))] H := hP
      have hD : va_D _ [(h0, .inr (1, [.ref qt, .ref qe, .ref qs, .int (nI g), .ref o1, .ref o2, .ref o3, .ref o4, .ref o5])), (qe, .inl (cI, 60, .inl (upd ge g (nI (32 * a + b))))), (qs, .inl (cI, 1024, .inl (upd gs (32 * a + b) ((gs (32 * a + b)) + (-1)))))] := hD
      refine lv_aload_n hx hb d_K_change_61 rfl (lv_at hl 1 rfl) ?_
      refine lv_dup hx hb d_K_change_62 rfl ?_
      refine va_get (D := (dC, dI)) (ci := 1) (v := .int (nI g)) (C := R_K) (T := F_K) (N := 9) hx hb htw u_K hown hK hP 0 rfl rfl 3 (by decide) (htw _ l_K_19) (fun _ h9 => h9) rfl d_K_change_63 ?_
      refine lv_iconst (v := nI 1) hx hb d_K_change_66 (by decide) ?_
      refine lv_iadd hx hb d_K_change_67 ?_
      refine rk_top (y := nI (g + 1)) (nI_add g 1) ?_
      refine va_put (D := (dC, dI)) (ci := 1) (v := .int (nI (g + 1))) (ty := .int) (C := R_K) (T := F_K) (N := 9) hx hb htw u_K t_K t_K_ok n_K hown hK hP hD hS 0 rfl rfl 3 (by decide) (htw _ l_K_19) (fun _ h9 => h9) rfl (by decide +kernel) rfl rfl (Nat.le_of_ble_eq_true rfl) d_K_change_68 (fun H locs hP hD hS => ?_)
      have hP : va_P (dC, dI) classes [(h0, .inr (1, [.ref qt, .ref qe, .ref qs, .int (nI (g + 1)), .ref o1, .ref o2, .ref o3, .ref o4, .ref o5])), (qe, .inl (cI, 60, .inl (upd ge g (nI (32 * a + b))))), (qs, .inl (cI, 1024, .inl (upd gs (32 * a + b) ((gs (32 * a + b)) + (-1)))))] H := hP
      have hD : va_D _ [(h0, .inr (1, [.ref qt, .ref qe, .ref qs, .int (nI (g + 1)), .ref o1, .ref o2, .ref o3, .ref o4, .ref o5])), (qe, .inl (cI, 60, .inl (upd ge g (nI (32 * a + b))))), (qs, .inl (cI, 1024, .inl (upd gs (32 * a + b) ((gs (32 * a + b)) + (-1)))))] := hD
      refine lv_aload_n hx hb d_K_change_71 rfl (lv_at hl 1 rfl) ?_
      refine va_get (D := (dC, dI)) (ci := 1) (v := .int (nI (g + 1))) (C := R_K) (T := F_K) (N := 9) hx hb htw u_K hown hK hP 0 rfl rfl 3 (by decide) (htw _ l_K_19) (fun _ h9 => h9) rfl d_K_change_72 ?_
      refine vx_ret (W.widen (k := 2) (n := 12) (by omega) (by omega) ?_)
      exact rk_iret ((upd ge g (nI (32 * a + b)), upd gs (32 * a + b) (gs (32 * a + b) + (-1)))) hx hb hr hlocks (⟨a, b, ha, hb32, hxa, hyb, hc, rfl, rfl⟩) rfl hP hK hD hS d_K_change_75
    · have hd2 := zI_n.mp hd2
      subst hd2
      refine lv_iconst (v := nI 1) hx hb d_K_change_54 (by decide) ?_
      refine lv_goto (tgt := 59) hx hb d_K_change_55 (by decide) ?_
      refine lv_iadd hx hb d_K_change_59 ?_
      refine va_iast hx hb hK hP hD hS 2 0 rfl rfl (vp_in_nI (n := 32 * a + b) (show 32 * a + b < 1024 by omega) (by decide)) d_K_change_60 (fun H locs hP hD hS => ?_)
      rw [nI_clamp (show 32 * a + b < 2 ^ 31 by omega)] at hP hD
      have hP : va_P (dC, dI) classes [(h0, .inr (1, [.ref qt, .ref qe, .ref qs, .int (nI g), .ref o1, .ref o2, .ref o3, .ref o4, .ref o5])), (qe, .inl (cI, 60, .inl (upd ge g (nI (32 * a + b))))), (qs, .inl (cI, 1024, .inl (upd gs (32 * a + b) ((gs (32 * a + b)) + (nI 1)))))] H := hP
      have hD : va_D _ [(h0, .inr (1, [.ref qt, .ref qe, .ref qs, .int (nI g), .ref o1, .ref o2, .ref o3, .ref o4, .ref o5])), (qe, .inl (cI, 60, .inl (upd ge g (nI (32 * a + b))))), (qs, .inl (cI, 1024, .inl (upd gs (32 * a + b) ((gs (32 * a + b)) + (nI 1)))))] := hD
      refine lv_aload_n hx hb d_K_change_61 rfl (lv_at hl 1 rfl) ?_
      refine lv_dup hx hb d_K_change_62 rfl ?_
      refine va_get (D := (dC, dI)) (ci := 1) (v := .int (nI g)) (C := R_K) (T := F_K) (N := 9) hx hb htw u_K hown hK hP 0 rfl rfl 3 (by decide) (htw _ l_K_19) (fun _ h9 => h9) rfl d_K_change_63 ?_
      refine lv_iconst (v := nI 1) hx hb d_K_change_66 (by decide) ?_
      refine lv_iadd hx hb d_K_change_67 ?_
      refine rk_top (y := nI (g + 1)) (nI_add g 1) ?_
      refine va_put (D := (dC, dI)) (ci := 1) (v := .int (nI (g + 1))) (ty := .int) (C := R_K) (T := F_K) (N := 9) hx hb htw u_K t_K t_K_ok n_K hown hK hP hD hS 0 rfl rfl 3 (by decide) (htw _ l_K_19) (fun _ h9 => h9) rfl (by decide +kernel) rfl rfl (Nat.le_of_ble_eq_true rfl) d_K_change_68 (fun H locs hP hD hS => ?_)
      have hP : va_P (dC, dI) classes [(h0, .inr (1, [.ref qt, .ref qe, .ref qs, .int (nI (g + 1)), .ref o1, .ref o2, .ref o3, .ref o4, .ref o5])), (qe, .inl (cI, 60, .inl (upd ge g (nI (32 * a + b))))), (qs, .inl (cI, 1024, .inl (upd gs (32 * a + b) ((gs (32 * a + b)) + (nI 1)))))] H := hP
      have hD : va_D _ [(h0, .inr (1, [.ref qt, .ref qe, .ref qs, .int (nI (g + 1)), .ref o1, .ref o2, .ref o3, .ref o4, .ref o5])), (qe, .inl (cI, 60, .inl (upd ge g (nI (32 * a + b))))), (qs, .inl (cI, 1024, .inl (upd gs (32 * a + b) ((gs (32 * a + b)) + (nI 1)))))] := hD
      refine lv_aload_n hx hb d_K_change_71 rfl (lv_at hl 1 rfl) ?_
      refine va_get (D := (dC, dI)) (ci := 1) (v := .int (nI (g + 1))) (C := R_K) (T := F_K) (N := 9) hx hb htw u_K hown hK hP 0 rfl rfl 3 (by decide) (htw _ l_K_19) (fun _ h9 => h9) rfl d_K_change_72 ?_
      refine vx_ret (W.widen (k := 2) (n := 12) (by omega) (by omega) ?_)
      exact rk_iret ((upd ge g (nI (32 * a + b)), upd gs (32 * a + b) (gs (32 * a + b) + nI 1))) hx hb hr hlocks (⟨a, b, ha, hb32, hxa, hyb, hc, rfl, rfl⟩) rfl hP hK hD hS d_K_change_75
  · have hc := rk_ge (by omega) (by omega) hc
    obtain ⟨sa, hstr⟩ := hY.2.1
    exact rk_throw (ik := 46) (is := 48) (ic := 50) (sa := sa) (cls := rk_IOO) (text := "the round is full") hx hb hl9 (hml.trans hl.1.symm) htw hown (by decide) cl_K_46 in_IndexOutOfBoundsException hstr xw_50 hY.2.2.2.2.2.2.1 hY xg_50 hZ d_K_change_14 d_K_change_17 d_K_change_18 d_K_change_20 d_K_change_23 hout (Nat.le_of_ble_eq_true rfl) (Nat.le_of_ble_eq_true rfl) (Nat.le_of_ble_eq_true rfl) (Nat.le_of_ble_eq_true rfl) hlocks (Or.inr ⟨rfl, by rw [hv.1, hv.2]; rfl, by omega⟩) hP hK hD hS (Nat.le_of_ble_eq_true rfl) (Nat.le_of_ble_eq_true rfl)
set_option maxHeartbeats 4000000 in
set_option maxRecDepth 100000 in
theorem c_K_apply (l : Launch) (hl9 : l.stackTraces = false) (dC : Nat → ClassId) (dI : Nat → Nat → Nat) (cI cZ cJ : ClassId) (sz : Nat) (h0 qt qe qs o1 o2 o3 o4 o5 : Nat) (g : Nat) (hg : g ≤ 60) (pp : Nat → Nat) (ge : Nat → Int32) (hge : ∀ i, i < g → ge i = nI (pp i) ∧ pp i < 1024) (q1 q2 q3 q4 q5 : Nat) (t gs r1 r2 r3 r4 r5 : Nat → Int32) (f0 : Nat → Bool) (hR1 : rk_R r1 (fun p => decide (0 < t p))) (hR2 : rk_R r2 f0) : vx_Met l y_K_apply (.code y_K_apply b_K_apply 1 (some .int) :: WT) { frames := 6, cells := 1, slots := 6, locals := 85 } (va_Pc [.ref h0] (rk_preX (dC, dI) [(cI, .int), (cZ, .boolean), (cJ, .long)] sz [(h0, .inr (1, [.ref qt, .ref qe, .ref qs, .int (nI g), .ref o1, .ref o2, .ref o3, .ref o4, .ref o5])), (qt, .inl (cI, 1024, .inl t)), (qe, .inl (cI, 60, .inl ge)), (qs, .inl (cI, 1024, .inl gs)), (o1, .inr (0, [.ref q1])), (q1, .inl (cI, 32, .inl r1)), (o2, .inr (0, [.ref q2])), (q2, .inl (cI, 32, .inl r2)), (o3, .inr (0, [.ref q3])), (q3, .inl (cI, 32, .inl r3)), (o4, .inr (0, [.ref q4])), (q4, .inl (cI, 32, .inl r4)), (o5, .inr (0, [.ref q5])), (q5, .inl (cI, 32, .inl r5))])) (va_Qi (fun (r : Int32) (u : (Nat → Int32) × (Nat → Int32) × (Nat → Int32) × (Nat → Int32) × (Nat → Int32) × (Nat → Int32) × (Nat → Int32)) => rk_apK pp t gs g f0 r u) (fun u s9 => rk_at (dC, dI) [(cI, .int), (cZ, .boolean), (cJ, .long)] (va_A [(h0, .inr (1, [.ref qt, .ref qe, .ref qs, .int (nI g), .ref o1, .ref o2, .ref o3, .ref o4, .ref o5])), (qt, .inl (cI, 1024, .inl t)), (qe, .inl (cI, 60, .inl ge)), (qs, .inl (cI, 1024, .inl gs)), (o1, .inr (0, [.ref q1])), (q1, .inl (cI, 32, .inl r1)), (o2, .inr (0, [.ref q2])), (q2, .inl (cI, 32, .inl r2)), (o3, .inr (0, [.ref q3])), (q3, .inl (cI, 32, .inl r3)), (o4, .inr (0, [.ref q4])), (q4, .inl (cI, 32, .inl r4)), (o5, .inr (0, [.ref q5])), (q5, .inl (cI, 32, .inl r5))] sz) [(h0, .inr (1, [.ref qt, .ref qe, .ref qs, .int (nI 0), .ref o1, .ref o2, .ref o3, .ref o4, .ref o5])), (qt, .inl (cI, 1024, .inl u.1)), (qe, .inl (cI, 60, .inl ge)), (qs, .inl (cI, 1024, .inl u.2.1)), (o1, .inr (0, [.ref q1])), (q1, .inl (cI, 32, .inl u.2.2.1)), (o2, .inr (0, [.ref q2])), (q2, .inl (cI, 32, .inl u.2.2.2.1)), (o3, .inr (0, [.ref q3])), (q3, .inl (cI, 32, .inl u.2.2.2.2.1)), (o4, .inr (0, [.ref q4])), (q4, .inl (cI, 32, .inl u.2.2.2.2.2.1)), (o5, .inr (0, [.ref q5])), (q5, .inl (cI, 32, .inl u.2.2.2.2.2.2))] s9) (va_A [(h0, .inr (1, [.ref qt, .ref qe, .ref qs, .int (nI g), .ref o1, .ref o2, .ref o3, .ref o4, .ref o5])), (qt, .inl (cI, 1024, .inl t)), (qe, .inl (cI, 60, .inl ge)), (qs, .inl (cI, 1024, .inl gs)), (o1, .inr (0, [.ref q1])), (q1, .inl (cI, 32, .inl r1)), (o2, .inr (0, [.ref q2])), (q2, .inl (cI, 32, .inl r2)), (o3, .inr (0, [.ref q3])), (q3, .inl (cI, 32, .inl r3)), (o4, .inr (0, [.ref q4])), (q4, .inl (cI, 32, .inl r4)), (o5, .inr (0, [.ref q5])), (q5, .inl (cI, 32, .inl r5))] sz)) (rk_XC (dC, dI) [(cI, .int), (cZ, .boolean), (cJ, .long)] (va_A [(h0, .inr (1, [.ref qt, .ref qe, .ref qs, .int (nI g), .ref o1, .ref o2, .ref o3, .ref o4, .ref o5])), (qt, .inl (cI, 1024, .inl t)), (qe, .inl (cI, 60, .inl ge)), (qs, .inl (cI, 1024, .inl gs)), (o1, .inr (0, [.ref q1])), (q1, .inl (cI, 32, .inl r1)), (o2, .inr (0, [.ref q2])), (q2, .inl (cI, 32, .inl r2)), (o3, .inr (0, [.ref q3])), (q3, .inl (cI, 32, .inl r3)), (o4, .inr (0, [.ref q4])), (q4, .inl (cI, 32, .inl r4)), (o5, .inr (0, [.ref q5])), (q5, .inl (cI, 32, .inl r5))] sz) [(h0, .inr (1, [.ref qt, .ref qe, .ref qs, .int (nI g), .ref o1, .ref o2, .ref o3, .ref o4, .ref o5])), (qt, .inl (cI, 1024, .inl t)), (qe, .inl (cI, 60, .inl ge)), (qs, .inl (cI, 1024, .inl gs)), (o1, .inr (0, [.ref q1])), (q1, .inl (cI, 32, .inl r1)), (o2, .inr (0, [.ref q2])), (q2, .inl (cI, 32, .inl r2)), (o3, .inr (0, [.ref q3])), (q3, .inl (cI, 32, .inl r3)), (o4, .inr (0, [.ref q4])), (q4, .inl (cI, 32, .inl r4)), (o5, .inr (0, [.ref q5])), (q5, .inl (cI, 32, .inl r5))] (fun E => E = rk_ISE ∧ rk_any (fun i => decide (t (pp i) + gs (pp i) < 0)) g = true)) 1 6 (va_A [(h0, .inr (1, [.ref qt, .ref qe, .ref qs, .int (nI g), .ref o1, .ref o2, .ref o3, .ref o4, .ref o5])), (qt, .inl (cI, 1024, .inl t)), (qe, .inl (cI, 60, .inl ge)), (qs, .inl (cI, 1024, .inl gs)), (o1, .inr (0, [.ref q1])), (q1, .inl (cI, 32, .inl r1)), (o2, .inr (0, [.ref q2])), (q2, .inl (cI, 32, .inl r2)), (o3, .inr (0, [.ref q3])), (q3, .inl (cI, 32, .inl r3)), (o4, .inr (0, [.ref q4])), (q4, .inl (cI, 32, .inl r4)), (o5, .inr (0, [.ref q5])), (q5, .inl (cI, 32, .inl r5))] sz) := by
  refine rk_bodyX (by decide) (Nat.le_of_ble_eq_true rfl) ?_
  intro p e s m below meth c hx hb hml hr htw hown hlocks hin hsz hP hK hD hA hS hY hZ hout ls hl
  have hown : s.vm.findClass R_K = some m.cls := hown
  have hl : lv_has ls 1 [(0, .ref h0)] := hl
  refine lv_aload_n hx hb d_K_apply_0 rfl (lv_at hl 0 rfl) ?_
  refine rk_backi (wc := [(h0, .inr (1, [.ref qt, .ref qe, .ref qs, .int (nI g), .ref o1, .ref o2, .ref o3, .ref o4, .ref o5])), (qt, .inl (cI, 1024, .inl t)), (qe, .inl (cI, 60, .inl ge)), (qs, .inl (cI, 1024, .inl gs))]) (wr := [(o1, .inr (0, [.ref q1])), (q1, .inl (cI, 32, .inl r1)), (o2, .inr (0, [.ref q2])), (q2, .inl (cI, 32, .inl r2)), (o3, .inr (0, [.ref q3])), (q3, .inl (cI, 32, .inl r3)), (o4, .inr (0, [.ref q4])), (q4, .inl (cI, 32, .inl r4)), (o5, .inr (0, [.ref q5])), (q5, .inl (cI, 32, .inl r5))]) (va_runV (As := []) (rest := []) ⟨hx, hb, hml, hown, htw⟩ (c_K_gatheredConflicts l dC dI cI cZ cJ _ h0 qt qe qs o1 o2 o3 o4 o5 g hg pp ge hge t gs) (rk_cwV 0 htw gc_K_apply_1 (by decide +kernel) ⟨(Nat.le_of_ble_eq_true rfl), (Nat.le_of_ble_eq_true rfl)⟩) (⟨rk_blind, va_recv hK hP (ci := 1) rfl (q0 := 0) rfl, rk_give (rk_psub (isC := [0, 1, 2, 3]) hP rfl) hK (hD.sub [0, 1, 2, 3] rfl rfl)⟩) rfl rfl hl.1 rfl (lv_room (Nat.le_of_ble_eq_true rfl)) d_K_apply_1 ⟨(Nat.le_of_ble_eq_true rfl), (Nat.le_of_ble_eq_true rfl)⟩) hP hD hS hA [0, 1, 2, 3] [4, 5, 6, 7, 8, 9, 10, 11, 12, 13] rfl rfl rfl (by decide) (fun x5 u5 H locs hp5 hP hD hS => ?_)
  subst hp5
  have hP : va_P (dC, dI) classes [(o1, .inr (0, [.ref q1])), (q1, .inl (cI, 32, .inl r1)), (o2, .inr (0, [.ref q2])), (q2, .inl (cI, 32, .inl r2)), (o3, .inr (0, [.ref q3])), (q3, .inl (cI, 32, .inl r3)), (o4, .inr (0, [.ref q4])), (q4, .inl (cI, 32, .inl r4)), (o5, .inr (0, [.ref q5])), (q5, .inl (cI, 32, .inl r5)), (h0, .inr (1, [.ref qt, .ref qe, .ref qs, .int (nI g), .ref o1, .ref o2, .ref o3, .ref o4, .ref o5])), (qt, .inl (cI, 1024, .inl t)), (qe, .inl (cI, 60, .inl ge)), (qs, .inl (cI, 1024, .inl gs))] H := hP
  have hD : va_D _ [(o1, .inr (0, [.ref q1])), (q1, .inl (cI, 32, .inl r1)), (o2, .inr (0, [.ref q2])), (q2, .inl (cI, 32, .inl r2)), (o3, .inr (0, [.ref q3])), (q3, .inl (cI, 32, .inl r3)), (o4, .inr (0, [.ref q4])), (q4, .inl (cI, 32, .inl r4)), (o5, .inr (0, [.ref q5])), (q5, .inl (cI, 32, .inl r5)), (h0, .inr (1, [.ref qt, .ref qe, .ref qs, .int (nI g), .ref o1, .ref o2, .ref o3, .ref o4, .ref o5])), (qt, .inl (cI, 1024, .inl t)), (qe, .inl (cI, 60, .inl ge)), (qs, .inl (cI, 1024, .inl gs))] := hD
  have hP := hP.sub (ws' := [(h0, .inr (1, [.ref qt, .ref qe, .ref qs, .int (nI g), .ref o1, .ref o2, .ref o3, .ref o4, .ref o5])), (qt, .inl (cI, 1024, .inl t)), (qe, .inl (cI, 60, .inl ge)), (qs, .inl (cI, 1024, .inl gs)), (o1, .inr (0, [.ref q1])), (q1, .inl (cI, 32, .inl r1)), (o2, .inr (0, [.ref q2])), (q2, .inl (cI, 32, .inl r2)), (o3, .inr (0, [.ref q3])), (q3, .inl (cI, 32, .inl r3)), (o4, .inr (0, [.ref q4])), (q4, .inl (cI, 32, .inl r4)), (o5, .inr (0, [.ref q5])), (q5, .inl (cI, 32, .inl r5))]) [10, 11, 12, 13, 0, 1, 2, 3, 4, 5, 6, 7, 8, 9] rfl
  have hD := hD.sub (ws' := [(h0, .inr (1, [.ref qt, .ref qe, .ref qs, .int (nI g), .ref o1, .ref o2, .ref o3, .ref o4, .ref o5])), (qt, .inl (cI, 1024, .inl t)), (qe, .inl (cI, 60, .inl ge)), (qs, .inl (cI, 1024, .inl gs)), (o1, .inr (0, [.ref q1])), (q1, .inl (cI, 32, .inl r1)), (o2, .inr (0, [.ref q2])), (q2, .inl (cI, 32, .inl r2)), (o3, .inr (0, [.ref q3])), (q3, .inl (cI, 32, .inl r3)), (o4, .inr (0, [.ref q4])), (q4, .inl (cI, 32, .inl r4)), (o5, .inr (0, [.ref q5])), (q5, .inl (cI, 32, .inl r5))]) [10, 11, 12, 13, 0, 1, 2, 3, 4, 5, 6, 7, 8, 9] rfl rfl
  refine lv_if_eq (tgt := 17) hx hb d_K_apply_4 (by decide) (fun hc => ?_) (fun hc => ?_)
  · have hc := zI_0.mp hc
    refine lv_aload_n hx hb d_K_apply_17 rfl (lv_at hl 0 rfl) ?_
    refine rk_backv (wc := [(h0, .inr (1, [.ref qt, .ref qe, .ref qs, .int (nI g), .ref o1, .ref o2, .ref o3, .ref o4, .ref o5])), (qt, .inl (cI, 1024, .inl t)), (qe, .inl (cI, 60, .inl ge)), (qs, .inl (cI, 1024, .inl gs)), (o1, .inr (0, [.ref q1])), (q1, .inl (cI, 32, .inl r1))]) (wr := [(o2, .inr (0, [.ref q2])), (q2, .inl (cI, 32, .inl r2)), (o3, .inr (0, [.ref q3])), (q3, .inl (cI, 32, .inl r3)), (o4, .inr (0, [.ref q4])), (q4, .inl (cI, 32, .inl r4)), (o5, .inr (0, [.ref q5])), (q5, .inl (cI, 32, .inl r5))]) (va_runV (As := []) (rest := []) ⟨hx, hb, hml, hown, htw⟩ (c_K_addGatheredToCounts l dC dI cI cZ cJ _ h0 qt qe qs o1 o2 o3 o4 o5 g hg pp ge hge q1 t gs r1 hR1) (rk_cwV 0 htw gc_K_apply_18 (by decide +kernel) ⟨(Nat.le_of_ble_eq_true rfl), (Nat.le_of_ble_eq_true rfl)⟩) (⟨rk_blind, va_recv hK hP (ci := 1) rfl (q0 := 0) rfl, rk_give (rk_psub (isC := [0, 1, 2, 3, 4, 5]) hP rfl) hK (hD.sub [0, 1, 2, 3, 4, 5] rfl rfl)⟩) rfl rfl hl.1 rfl (lv_room (Nat.le_of_ble_eq_true rfl)) d_K_apply_18 ⟨(Nat.le_of_ble_eq_true rfl), (Nat.le_of_ble_eq_true rfl)⟩) hP hD hS hA [0, 1, 2, 3, 4, 5] [6, 7, 8, 9, 10, 11, 12, 13] rfl rfl rfl (by decide) (fun u6 H locs hag hP hD hS => ?_)
    have hP : va_P (dC, dI) classes [(o2, .inr (0, [.ref q2])), (q2, .inl (cI, 32, .inl r2)), (o3, .inr (0, [.ref q3])), (q3, .inl (cI, 32, .inl r3)), (o4, .inr (0, [.ref q4])), (q4, .inl (cI, 32, .inl r4)), (o5, .inr (0, [.ref q5])), (q5, .inl (cI, 32, .inl r5)), (h0, .inr (1, [.ref qt, .ref qe, .ref qs, .int (nI g), .ref o1, .ref o2, .ref o3, .ref o4, .ref o5])), (qt, .inl (cI, 1024, .inl u6.1)), (qe, .inl (cI, 60, .inl ge)), (qs, .inl (cI, 1024, .inl u6.2.1)), (o1, .inr (0, [.ref q1])), (q1, .inl (cI, 32, .inl u6.2.2))] H := hP
    have hD : va_D _ [(o2, .inr (0, [.ref q2])), (q2, .inl (cI, 32, .inl r2)), (o3, .inr (0, [.ref q3])), (q3, .inl (cI, 32, .inl r3)), (o4, .inr (0, [.ref q4])), (q4, .inl (cI, 32, .inl r4)), (o5, .inr (0, [.ref q5])), (q5, .inl (cI, 32, .inl r5)), (h0, .inr (1, [.ref qt, .ref qe, .ref qs, .int (nI g), .ref o1, .ref o2, .ref o3, .ref o4, .ref o5])), (qt, .inl (cI, 1024, .inl u6.1)), (qe, .inl (cI, 60, .inl ge)), (qs, .inl (cI, 1024, .inl u6.2.1)), (o1, .inr (0, [.ref q1])), (q1, .inl (cI, 32, .inl u6.2.2))] := hD
    have hP := hP.sub (ws' := [(h0, .inr (1, [.ref qt, .ref qe, .ref qs, .int (nI g), .ref o1, .ref o2, .ref o3, .ref o4, .ref o5])), (qt, .inl (cI, 1024, .inl u6.1)), (qe, .inl (cI, 60, .inl ge)), (qs, .inl (cI, 1024, .inl u6.2.1)), (o1, .inr (0, [.ref q1])), (q1, .inl (cI, 32, .inl u6.2.2)), (o2, .inr (0, [.ref q2])), (q2, .inl (cI, 32, .inl r2)), (o3, .inr (0, [.ref q3])), (q3, .inl (cI, 32, .inl r3)), (o4, .inr (0, [.ref q4])), (q4, .inl (cI, 32, .inl r4)), (o5, .inr (0, [.ref q5])), (q5, .inl (cI, 32, .inl r5))]) [8, 9, 10, 11, 12, 13, 0, 1, 2, 3, 4, 5, 6, 7] rfl
    have hD := hD.sub (ws' := [(h0, .inr (1, [.ref qt, .ref qe, .ref qs, .int (nI g), .ref o1, .ref o2, .ref o3, .ref o4, .ref o5])), (qt, .inl (cI, 1024, .inl u6.1)), (qe, .inl (cI, 60, .inl ge)), (qs, .inl (cI, 1024, .inl u6.2.1)), (o1, .inr (0, [.ref q1])), (q1, .inl (cI, 32, .inl u6.2.2)), (o2, .inr (0, [.ref q2])), (q2, .inl (cI, 32, .inl r2)), (o3, .inr (0, [.ref q3])), (q3, .inl (cI, 32, .inl r3)), (o4, .inr (0, [.ref q4])), (q4, .inl (cI, 32, .inl r4)), (o5, .inr (0, [.ref q5])), (q5, .inl (cI, 32, .inl r5))]) [8, 9, 10, 11, 12, 13, 0, 1, 2, 3, 4, 5, 6, 7] rfl rfl
    refine lv_aload_n hx hb d_K_apply_21 rfl (lv_at hl 0 rfl) ?_
    refine rk_backv (wc := [(h0, .inr (1, [.ref qt, .ref qe, .ref qs, .int (nI g), .ref o1, .ref o2, .ref o3, .ref o4, .ref o5])), (qe, .inl (cI, 60, .inl ge)), (qs, .inl (cI, 1024, .inl u6.2.1))]) (wr := [(qt, .inl (cI, 1024, .inl u6.1)), (o1, .inr (0, [.ref q1])), (q1, .inl (cI, 32, .inl u6.2.2)), (o2, .inr (0, [.ref q2])), (q2, .inl (cI, 32, .inl r2)), (o3, .inr (0, [.ref q3])), (q3, .inl (cI, 32, .inl r3)), (o4, .inr (0, [.ref q4])), (q4, .inl (cI, 32, .inl r4)), (o5, .inr (0, [.ref q5])), (q5, .inl (cI, 32, .inl r5))]) (va_runV (As := []) (rest := []) ⟨hx, hb, hml, hown, htw⟩ (c_K_clearGathered l dC dI cI cZ cJ _ h0 qt qe qs o1 o2 o3 o4 o5 g hg pp ge hge u6.2.1) (rk_cwV 0 htw gc_K_apply_22 (by decide +kernel) ⟨(Nat.le_of_ble_eq_true rfl), (Nat.le_of_ble_eq_true rfl)⟩) (⟨rk_blind, va_recv hK hP (ci := 1) rfl (q0 := 0) rfl, rk_give (rk_psub (isC := [0, 2, 3]) hP rfl) hK (hD.sub [0, 2, 3] rfl rfl)⟩) rfl rfl hl.1 rfl (lv_room (Nat.le_of_ble_eq_true rfl)) d_K_apply_22 ⟨(Nat.le_of_ble_eq_true rfl), (Nat.le_of_ble_eq_true rfl)⟩) hP hD hS hA [0, 2, 3] [1, 4, 5, 6, 7, 8, 9, 10, 11, 12, 13] rfl rfl rfl (by decide) (fun u7 H locs hcl7 hP hD hS => ?_)
    have hP : va_P (dC, dI) classes [(qt, .inl (cI, 1024, .inl u6.1)), (o1, .inr (0, [.ref q1])), (q1, .inl (cI, 32, .inl u6.2.2)), (o2, .inr (0, [.ref q2])), (q2, .inl (cI, 32, .inl r2)), (o3, .inr (0, [.ref q3])), (q3, .inl (cI, 32, .inl r3)), (o4, .inr (0, [.ref q4])), (q4, .inl (cI, 32, .inl r4)), (o5, .inr (0, [.ref q5])), (q5, .inl (cI, 32, .inl r5)), (h0, .inr (1, [.ref qt, .ref qe, .ref qs, .int (nI 0), .ref o1, .ref o2, .ref o3, .ref o4, .ref o5])), (qe, .inl (cI, 60, .inl ge)), (qs, .inl (cI, 1024, .inl u7))] H := hP
    have hD : va_D _ [(qt, .inl (cI, 1024, .inl u6.1)), (o1, .inr (0, [.ref q1])), (q1, .inl (cI, 32, .inl u6.2.2)), (o2, .inr (0, [.ref q2])), (q2, .inl (cI, 32, .inl r2)), (o3, .inr (0, [.ref q3])), (q3, .inl (cI, 32, .inl r3)), (o4, .inr (0, [.ref q4])), (q4, .inl (cI, 32, .inl r4)), (o5, .inr (0, [.ref q5])), (q5, .inl (cI, 32, .inl r5)), (h0, .inr (1, [.ref qt, .ref qe, .ref qs, .int (nI 0), .ref o1, .ref o2, .ref o3, .ref o4, .ref o5])), (qe, .inl (cI, 60, .inl ge)), (qs, .inl (cI, 1024, .inl u7))] := hD
    have hP := hP.sub (ws' := [(h0, .inr (1, [.ref qt, .ref qe, .ref qs, .int (nI 0), .ref o1, .ref o2, .ref o3, .ref o4, .ref o5])), (qt, .inl (cI, 1024, .inl u6.1)), (qe, .inl (cI, 60, .inl ge)), (qs, .inl (cI, 1024, .inl u7)), (o1, .inr (0, [.ref q1])), (q1, .inl (cI, 32, .inl u6.2.2)), (o2, .inr (0, [.ref q2])), (q2, .inl (cI, 32, .inl r2)), (o3, .inr (0, [.ref q3])), (q3, .inl (cI, 32, .inl r3)), (o4, .inr (0, [.ref q4])), (q4, .inl (cI, 32, .inl r4)), (o5, .inr (0, [.ref q5])), (q5, .inl (cI, 32, .inl r5))]) [11, 0, 12, 13, 1, 2, 3, 4, 5, 6, 7, 8, 9, 10] rfl
    have hD := hD.sub (ws' := [(h0, .inr (1, [.ref qt, .ref qe, .ref qs, .int (nI 0), .ref o1, .ref o2, .ref o3, .ref o4, .ref o5])), (qt, .inl (cI, 1024, .inl u6.1)), (qe, .inl (cI, 60, .inl ge)), (qs, .inl (cI, 1024, .inl u7)), (o1, .inr (0, [.ref q1])), (q1, .inl (cI, 32, .inl u6.2.2)), (o2, .inr (0, [.ref q2])), (q2, .inl (cI, 32, .inl r2)), (o3, .inr (0, [.ref q3])), (q3, .inl (cI, 32, .inl r3)), (o4, .inr (0, [.ref q4])), (q4, .inl (cI, 32, .inl r4)), (o5, .inr (0, [.ref q5])), (q5, .inl (cI, 32, .inl r5))]) [11, 0, 12, 13, 1, 2, 3, 4, 5, 6, 7, 8, 9, 10] rfl rfl
    refine lv_aload_n hx hb d_K_apply_25 rfl (lv_at hl 0 rfl) ?_
    refine rk_backv (wc := [(h0, .inr (1, [.ref qt, .ref qe, .ref qs, .int (nI 0), .ref o1, .ref o2, .ref o3, .ref o4, .ref o5])), (o1, .inr (0, [.ref q1])), (q1, .inl (cI, 32, .inl u6.2.2)), (o2, .inr (0, [.ref q2])), (q2, .inl (cI, 32, .inl r2)), (o3, .inr (0, [.ref q3])), (q3, .inl (cI, 32, .inl r3)), (o4, .inr (0, [.ref q4])), (q4, .inl (cI, 32, .inl r4)), (o5, .inr (0, [.ref q5])), (q5, .inl (cI, 32, .inl r5))]) (wr := [(qt, .inl (cI, 1024, .inl u6.1)), (qe, .inl (cI, 60, .inl ge)), (qs, .inl (cI, 1024, .inl u7))]) (va_runV (As := []) (rest := []) ⟨hx, hb, hml, hown, htw⟩ (c_K_followEdges l dC dI cI cZ cJ _ h0 qt qe qs o1 o2 o3 o4 o5 0 q1 q2 q3 q4 q5 u6.2.2 r2 r3 r4 r5 _ f0 hag.2.2 hR2) (rk_cwV 0 htw gc_K_apply_26 (by decide +kernel) ⟨(Nat.le_of_ble_eq_true rfl), (Nat.le_of_ble_eq_true rfl)⟩) (⟨rk_blind, va_recv hK hP (ci := 1) rfl (q0 := 0) rfl, rk_give (rk_psub (isC := [0, 4, 5, 6, 7, 8, 9, 10, 11, 12, 13]) hP rfl) hK (hD.sub [0, 4, 5, 6, 7, 8, 9, 10, 11, 12, 13] rfl rfl)⟩) rfl rfl hl.1 rfl (lv_room (Nat.le_of_ble_eq_true rfl)) d_K_apply_26 ⟨(Nat.le_of_ble_eq_true rfl), (Nat.le_of_ble_eq_true rfl)⟩) hP hD hS hA [0, 4, 5, 6, 7, 8, 9, 10, 11, 12, 13] [1, 2, 3] rfl rfl rfl (by decide) (fun u8 H locs hfo hP hD hS => ?_)
    have hP : va_P (dC, dI) classes [(qt, .inl (cI, 1024, .inl u6.1)), (qe, .inl (cI, 60, .inl ge)), (qs, .inl (cI, 1024, .inl u7)), (h0, .inr (1, [.ref qt, .ref qe, .ref qs, .int (nI 0), .ref o1, .ref o2, .ref o3, .ref o4, .ref o5])), (o1, .inr (0, [.ref q1])), (q1, .inl (cI, 32, .inl u6.2.2)), (o2, .inr (0, [.ref q2])), (q2, .inl (cI, 32, .inl u8.1)), (o3, .inr (0, [.ref q3])), (q3, .inl (cI, 32, .inl u8.2.1)), (o4, .inr (0, [.ref q4])), (q4, .inl (cI, 32, .inl u8.2.2.1)), (o5, .inr (0, [.ref q5])), (q5, .inl (cI, 32, .inl u8.2.2.2))] H := hP
    have hD : va_D _ [(qt, .inl (cI, 1024, .inl u6.1)), (qe, .inl (cI, 60, .inl ge)), (qs, .inl (cI, 1024, .inl u7)), (h0, .inr (1, [.ref qt, .ref qe, .ref qs, .int (nI 0), .ref o1, .ref o2, .ref o3, .ref o4, .ref o5])), (o1, .inr (0, [.ref q1])), (q1, .inl (cI, 32, .inl u6.2.2)), (o2, .inr (0, [.ref q2])), (q2, .inl (cI, 32, .inl u8.1)), (o3, .inr (0, [.ref q3])), (q3, .inl (cI, 32, .inl u8.2.1)), (o4, .inr (0, [.ref q4])), (q4, .inl (cI, 32, .inl u8.2.2.1)), (o5, .inr (0, [.ref q5])), (q5, .inl (cI, 32, .inl u8.2.2.2))] := hD
    have hP := hP.sub (ws' := [(h0, .inr (1, [.ref qt, .ref qe, .ref qs, .int (nI 0), .ref o1, .ref o2, .ref o3, .ref o4, .ref o5])), (qt, .inl (cI, 1024, .inl u6.1)), (qe, .inl (cI, 60, .inl ge)), (qs, .inl (cI, 1024, .inl u7)), (o1, .inr (0, [.ref q1])), (q1, .inl (cI, 32, .inl u6.2.2)), (o2, .inr (0, [.ref q2])), (q2, .inl (cI, 32, .inl u8.1)), (o3, .inr (0, [.ref q3])), (q3, .inl (cI, 32, .inl u8.2.1)), (o4, .inr (0, [.ref q4])), (q4, .inl (cI, 32, .inl u8.2.2.1)), (o5, .inr (0, [.ref q5])), (q5, .inl (cI, 32, .inl u8.2.2.2))]) [3, 0, 1, 2, 4, 5, 6, 7, 8, 9, 10, 11, 12, 13] rfl
    have hD := hD.sub (ws' := [(h0, .inr (1, [.ref qt, .ref qe, .ref qs, .int (nI 0), .ref o1, .ref o2, .ref o3, .ref o4, .ref o5])), (qt, .inl (cI, 1024, .inl u6.1)), (qe, .inl (cI, 60, .inl ge)), (qs, .inl (cI, 1024, .inl u7)), (o1, .inr (0, [.ref q1])), (q1, .inl (cI, 32, .inl u6.2.2)), (o2, .inr (0, [.ref q2])), (q2, .inl (cI, 32, .inl u8.1)), (o3, .inr (0, [.ref q3])), (q3, .inl (cI, 32, .inl u8.2.1)), (o4, .inr (0, [.ref q4])), (q4, .inl (cI, 32, .inl u8.2.2.1)), (o5, .inr (0, [.ref q5])), (q5, .inl (cI, 32, .inl u8.2.2.2))]) [3, 0, 1, 2, 4, 5, 6, 7, 8, 9, 10, 11, 12, 13] rfl rfl
    refine lv_aload_n hx hb d_K_apply_29 rfl (lv_at hl 0 rfl) ?_
    refine va_get (D := (dC, dI)) (ci := 1) (v := .ref o4) (C := R_K) (T := F_K) (N := 9) hx hb htw u_K hown hK hP 0 rfl rfl 7 (by decide) (htw _ l_K_36) (fun _ h9 => h9) rfl d_K_apply_30 ?_
    refine rk_backi (wc := [(o4, .inr (0, [.ref q4])), (q4, .inl (cI, 32, .inl u8.2.2.1))]) (wr := [(h0, .inr (1, [.ref qt, .ref qe, .ref qs, .int (nI 0), .ref o1, .ref o2, .ref o3, .ref o4, .ref o5])), (qt, .inl (cI, 1024, .inl u6.1)), (qe, .inl (cI, 60, .inl ge)), (qs, .inl (cI, 1024, .inl u7)), (o1, .inr (0, [.ref q1])), (q1, .inl (cI, 32, .inl u6.2.2)), (o2, .inr (0, [.ref q2])), (q2, .inl (cI, 32, .inl u8.1)), (o3, .inr (0, [.ref q3])), (q3, .inl (cI, 32, .inl u8.2.1)), (o5, .inr (0, [.ref q5])), (q5, .inl (cI, 32, .inl u8.2.2.2))]) (va_runV (As := []) (rest := []) ⟨hx, hb, hml, hown, htw⟩ (c_P_size l dC dI cI cZ cJ _ o4 q4 u8.2.2.1) (rk_cwV 0 htw gc_K_apply_33 (by decide +kernel) ⟨(Nat.le_of_ble_eq_true rfl), (Nat.le_of_ble_eq_true rfl)⟩) (⟨rk_blind, va_recv hK hP (ci := 0) rfl (q0 := 10) rfl, rk_give (rk_psub (isC := [10, 11]) hP rfl) hK (hD.sub [10, 11] rfl rfl)⟩) rfl rfl hl.1 rfl (lv_room (Nat.le_of_ble_eq_true rfl)) d_K_apply_33 ⟨(Nat.le_of_ble_eq_true rfl), (Nat.le_of_ble_eq_true rfl)⟩) hP hD hS hA [10, 11] [0, 1, 2, 3, 4, 5, 6, 7, 8, 9, 12, 13] rfl rfl rfl (by decide) (fun x9 u9 H locs hp9 hP hD hS => ?_)
    subst hp9
    have hP : va_P (dC, dI) classes [(h0, .inr (1, [.ref qt, .ref qe, .ref qs, .int (nI 0), .ref o1, .ref o2, .ref o3, .ref o4, .ref o5])), (qt, .inl (cI, 1024, .inl u6.1)), (qe, .inl (cI, 60, .inl ge)), (qs, .inl (cI, 1024, .inl u7)), (o1, .inr (0, [.ref q1])), (q1, .inl (cI, 32, .inl u6.2.2)), (o2, .inr (0, [.ref q2])), (q2, .inl (cI, 32, .inl u8.1)), (o3, .inr (0, [.ref q3])), (q3, .inl (cI, 32, .inl u8.2.1)), (o5, .inr (0, [.ref q5])), (q5, .inl (cI, 32, .inl u8.2.2.2)), (o4, .inr (0, [.ref q4])), (q4, .inl (cI, 32, .inl u8.2.2.1))] H := hP
    have hD : va_D _ [(h0, .inr (1, [.ref qt, .ref qe, .ref qs, .int (nI 0), .ref o1, .ref o2, .ref o3, .ref o4, .ref o5])), (qt, .inl (cI, 1024, .inl u6.1)), (qe, .inl (cI, 60, .inl ge)), (qs, .inl (cI, 1024, .inl u7)), (o1, .inr (0, [.ref q1])), (q1, .inl (cI, 32, .inl u6.2.2)), (o2, .inr (0, [.ref q2])), (q2, .inl (cI, 32, .inl u8.1)), (o3, .inr (0, [.ref q3])), (q3, .inl (cI, 32, .inl u8.2.1)), (o5, .inr (0, [.ref q5])), (q5, .inl (cI, 32, .inl u8.2.2.2)), (o4, .inr (0, [.ref q4])), (q4, .inl (cI, 32, .inl u8.2.2.1))] := hD
    have hP := hP.sub (ws' := [(h0, .inr (1, [.ref qt, .ref qe, .ref qs, .int (nI 0), .ref o1, .ref o2, .ref o3, .ref o4, .ref o5])), (qt, .inl (cI, 1024, .inl u6.1)), (qe, .inl (cI, 60, .inl ge)), (qs, .inl (cI, 1024, .inl u7)), (o1, .inr (0, [.ref q1])), (q1, .inl (cI, 32, .inl u6.2.2)), (o2, .inr (0, [.ref q2])), (q2, .inl (cI, 32, .inl u8.1)), (o3, .inr (0, [.ref q3])), (q3, .inl (cI, 32, .inl u8.2.1)), (o4, .inr (0, [.ref q4])), (q4, .inl (cI, 32, .inl u8.2.2.1)), (o5, .inr (0, [.ref q5])), (q5, .inl (cI, 32, .inl u8.2.2.2))]) [0, 1, 2, 3, 4, 5, 6, 7, 8, 9, 12, 13, 10, 11] rfl
    have hD := hD.sub (ws' := [(h0, .inr (1, [.ref qt, .ref qe, .ref qs, .int (nI 0), .ref o1, .ref o2, .ref o3, .ref o4, .ref o5])), (qt, .inl (cI, 1024, .inl u6.1)), (qe, .inl (cI, 60, .inl ge)), (qs, .inl (cI, 1024, .inl u7)), (o1, .inr (0, [.ref q1])), (q1, .inl (cI, 32, .inl u6.2.2)), (o2, .inr (0, [.ref q2])), (q2, .inl (cI, 32, .inl u8.1)), (o3, .inr (0, [.ref q3])), (q3, .inl (cI, 32, .inl u8.2.1)), (o4, .inr (0, [.ref q4])), (q4, .inl (cI, 32, .inl u8.2.2.1)), (o5, .inr (0, [.ref q5])), (q5, .inl (cI, 32, .inl u8.2.2.2))]) [0, 1, 2, 3, 4, 5, 6, 7, 8, 9, 12, 13, 10, 11] rfl rfl
    refine lv_aload_n hx hb d_K_apply_36 rfl (lv_at hl 0 rfl) ?_
    refine va_get (D := (dC, dI)) (ci := 1) (v := .ref o5) (C := R_K) (T := F_K) (N := 9) hx hb htw u_K hown hK hP 0 rfl rfl 8 (by decide) (htw _ l_K_39) (fun _ h9 => h9) rfl d_K_apply_37 ?_
    refine rk_backi (wc := [(o5, .inr (0, [.ref q5])), (q5, .inl (cI, 32, .inl u8.2.2.2))]) (wr := [(h0, .inr (1, [.ref qt, .ref qe, .ref qs, .int (nI 0), .ref o1, .ref o2, .ref o3, .ref o4, .ref o5])), (qt, .inl (cI, 1024, .inl u6.1)), (qe, .inl (cI, 60, .inl ge)), (qs, .inl (cI, 1024, .inl u7)), (o1, .inr (0, [.ref q1])), (q1, .inl (cI, 32, .inl u6.2.2)), (o2, .inr (0, [.ref q2])), (q2, .inl (cI, 32, .inl u8.1)), (o3, .inr (0, [.ref q3])), (q3, .inl (cI, 32, .inl u8.2.1)), (o4, .inr (0, [.ref q4])), (q4, .inl (cI, 32, .inl u8.2.2.1))]) (va_runV (As := []) (rest := [.int (nI (rk_sz u8.2.2.1 32))]) ⟨hx, hb, hml, hown, htw⟩ (c_P_size l dC dI cI cZ cJ _ o5 q5 u8.2.2.2) (rk_cwV 0 htw gc_K_apply_40 (by decide +kernel) ⟨(Nat.le_of_ble_eq_true rfl), (Nat.le_of_ble_eq_true rfl)⟩) (⟨rk_blind, va_recv hK hP (ci := 0) rfl (q0 := 12) rfl, rk_give (rk_psub (isC := [12, 13]) hP rfl) hK (hD.sub [12, 13] rfl rfl)⟩) rfl rfl hl.1 rfl (lv_room (Nat.le_of_ble_eq_true rfl)) d_K_apply_40 ⟨(Nat.le_of_ble_eq_true rfl), (Nat.le_of_ble_eq_true rfl)⟩) hP hD hS hA [12, 13] [0, 1, 2, 3, 4, 5, 6, 7, 8, 9, 10, 11] rfl rfl rfl (by decide) (fun x10 u10 H locs hp10 hP hD hS => ?_)
    subst hp10
    have hP : va_P (dC, dI) classes [(h0, .inr (1, [.ref qt, .ref qe, .ref qs, .int (nI 0), .ref o1, .ref o2, .ref o3, .ref o4, .ref o5])), (qt, .inl (cI, 1024, .inl u6.1)), (qe, .inl (cI, 60, .inl ge)), (qs, .inl (cI, 1024, .inl u7)), (o1, .inr (0, [.ref q1])), (q1, .inl (cI, 32, .inl u6.2.2)), (o2, .inr (0, [.ref q2])), (q2, .inl (cI, 32, .inl u8.1)), (o3, .inr (0, [.ref q3])), (q3, .inl (cI, 32, .inl u8.2.1)), (o4, .inr (0, [.ref q4])), (q4, .inl (cI, 32, .inl u8.2.2.1)), (o5, .inr (0, [.ref q5])), (q5, .inl (cI, 32, .inl u8.2.2.2))] H := hP
    have hD : va_D _ [(h0, .inr (1, [.ref qt, .ref qe, .ref qs, .int (nI 0), .ref o1, .ref o2, .ref o3, .ref o4, .ref o5])), (qt, .inl (cI, 1024, .inl u6.1)), (qe, .inl (cI, 60, .inl ge)), (qs, .inl (cI, 1024, .inl u7)), (o1, .inr (0, [.ref q1])), (q1, .inl (cI, 32, .inl u6.2.2)), (o2, .inr (0, [.ref q2])), (q2, .inl (cI, 32, .inl u8.1)), (o3, .inr (0, [.ref q3])), (q3, .inl (cI, 32, .inl u8.2.1)), (o4, .inr (0, [.ref q4])), (q4, .inl (cI, 32, .inl u8.2.2.1)), (o5, .inr (0, [.ref q5])), (q5, .inl (cI, 32, .inl u8.2.2.2))] := hD
    refine lv_iadd hx hb d_K_apply_43 ?_
    refine rk_top (y := nI (rk_sz u8.2.2.1 32 + (rk_sz u8.2.2.2 32))) (nI_add (rk_sz u8.2.2.1 32) (rk_sz u8.2.2.2 32)) ?_
    refine vx_ret (W.widen (k := 1) (n := 6) (by omega) (by omega) ?_)
    exact rk_iret ((u6.1, u7, u6.2.2, u8.1, u8.2.1, u8.2.2.1, u8.2.2.2)) hx hb hr hlocks (⟨hc, hag.1, fun p hp => (hcl7 p hp).trans (by rw [hag.2.1 p hp]), hag.2.2, hfo.1, hfo.2.1, hfo.2.2, rfl⟩) rfl hP hK hD hS d_K_apply_44
  · obtain ⟨sa, hstr⟩ := hY.2.2.1
    exact rk_throw (ik := 64) (is := 66) (ic := 68) (sa := sa) (cls := rk_ISE) (text := "a count would be below 0") hx hb hl9 (hml.trans hl.1.symm) htw hown (by decide) cl_K_64 in_IllegalStateException hstr xw_68 hY.2.2.2.2.2.2.2.1 hY xg_68 hZ d_K_apply_7 d_K_apply_10 d_K_apply_11 d_K_apply_13 d_K_apply_16 hout (Nat.le_of_ble_eq_true rfl) (Nat.le_of_ble_eq_true rfl) (Nat.le_of_ble_eq_true rfl) (Nat.le_of_ble_eq_true rfl) hlocks (⟨rfl, zI_n.mp hc⟩) hP hK hD hS (Nat.le_of_ble_eq_true rfl) (Nat.le_of_ble_eq_true rfl)
end
section
section RKC2
variable {R : Room} {s : State} {args : Array Value} {own host : String} {index maxL : Nat} {y : MethodName} {bytes : ByteArray} {ret : Option FieldType} {rm : Room}
theorem rk_cwN (n : Nat) (ht : ∀ w ∈ WT, w.before args s = true) (hl : va_Nw (.methodLinkNest own index y host) s) (hini : Cond.initialized y.cls ∈ WT) (hco : Cond.code y bytes maxL ret ∈ WT) (hst : Cond.static y ∈ WT) (hd : y.cls ≠ "java/lang/invoke/MethodHandle" ∧ y.cls ≠ "java/lang/invoke/VarHandle" ∧ (parseMethodDescriptor y.desc).map (fun d => d.parameters.length) = some n) (hR : rm.frames + 1 ≤ R.frames ∧ 8 + (maxL + 11) + rm.locals ≤ R.locals) :
    va_CN R s args own index y host bytes maxL ret (.code y bytes maxL ret :: WT) rm rm.cells rm.slots n ∧ (Cond.static y).before args s = true ∧ True :=
  ⟨va_cnB n ht (fun w hw => rk_good w (rk_in_code hco hw)) rfl rfl rfl hl (ht _ hini) hd hR, ht _ hst, trivial⟩
end RKC2
theorem rk_eqI {D : va_G} {cl : List vw_C} {cI cZ cJ cA : ClassId} {s : State} (h : va_K D cl [(cI, .int), (cZ, .boolean), (cJ, .long)] s) (h9 : va_K D cl ([(cI, .int), (cZ, .boolean), (cJ, .long)] ++ [(cA, .int)]) s) : cI = cA := by
  have h1 : s.vm.findClass ("[" ++ (FieldType.int).toString) = some cI := (h.2 0 _ rfl).2
  have h2 : s.vm.findClass ("[" ++ (FieldType.int).toString) = some cA := (h9.2 3 _ rfl).2
  exact Option.some.inj (h1.symm.trans h2)
theorem rk_eqZ {D : va_G} {cl : List vw_C} {cI cZ cJ cA : ClassId} {s : State} (h : va_K D cl [(cI, .int), (cZ, .boolean), (cJ, .long)] s) (h9 : va_K D cl ([(cI, .int), (cZ, .boolean), (cJ, .long)] ++ [(cA, .boolean)]) s) : cZ = cA := by
  have h1 : s.vm.findClass ("[" ++ (FieldType.boolean).toString) = some cZ := (h.2 1 _ rfl).2
  have h2 : s.vm.findClass ("[" ++ (FieldType.boolean).toString) = some cA := (h9.2 3 _ rfl).2
  exact Option.some.inj (h1.symm.trans h2)
theorem rk_eqJ {D : va_G} {cl : List vw_C} {cI cZ cJ cA : ClassId} {s : State} (h : va_K D cl [(cI, .int), (cZ, .boolean), (cJ, .long)] s) (h9 : va_K D cl ([(cI, .int), (cZ, .boolean), (cJ, .long)] ++ [(cA, .long)]) s) : cJ = cA := by
  have h1 : s.vm.findClass ("[" ++ (FieldType.long).toString) = some cJ := (h.2 2 _ rfl).2
  have h2 : s.vm.findClass ("[" ++ (FieldType.long).toString) = some cA := (h9.2 3 _ rfl).2
  exact Option.some.inj (h1.symm.trans h2)
end
section
set_option maxHeartbeats 4000000 in
set_option maxRecDepth 100000 in
theorem c_P_pairAt (l : Launch) (hl9 : l.stackTraces = false) (dC : Nat → ClassId) (dI : Nat → Nat → Nat) (cI cZ cJ : ClassId) (sz : Nat) (h0 q0 : Nat) (r0 : Nat → Int32) (f0 : Nat → Bool) (hR : rk_R r0 f0) (x : Int32) : Met l y_P_pairAt (.code y_P_pairAt b_P_pairAt 5 (some .int) :: WT) { frames := 2, cells := 0, slots := 0, locals := 44 } (va_Pc [.ref h0, .int x] (rk_preX (dC, dI) [(cI, .int), (cZ, .boolean), (cJ, .long)] sz [(h0, .inr (0, [.ref q0])), (q0, .inl (cI, 32, .inl r0))])) (va_Qi (fun (r : Int32) (u : Unit) => rk_nth f0 x r) (fun _ s9 => rk_at (dC, dI) [(cI, .int), (cZ, .boolean), (cJ, .long)] (va_A [(h0, .inr (0, [.ref q0])), (q0, .inl (cI, 32, .inl r0))] sz) [(h0, .inr (0, [.ref q0])), (q0, .inl (cI, 32, .inl r0))] s9) (va_A [(h0, .inr (0, [.ref q0])), (q0, .inl (cI, 32, .inl r0))] sz)) 0 0 (va_A [(h0, .inr (0, [.ref q0])), (q0, .inl (cI, 32, .inl r0))] sz) := by
  refine rk_bodyY (by decide) (Nat.le_of_ble_eq_true rfl) ?_
  intro p e s m below meth c hx hb hml hr htw hown hlocks hin hsz hP hK hD hA hS hY hZ ls hl
  have hown : s.vm.findClass R_P = some m.cls := hown
  have hl : lv_has ls 5 [(0, .ref h0), (1, .int x)] := hl
  refine lv_iload_n hx hb d_P_pairAt_0 rfl (lv_at hl 1 rfl) ?_
  refine lv_if_ge (tgt := 6) hx hb d_P_pairAt_1 (by decide) (fun hc => ?_) (fun hc => ?_)
  · have hx0 : ¬ x < 0 := Int32.not_lt.mpr hc
    obtain ⟨k, hk0, hxk⟩ := nI_of hx0
    have hl : lv_has ls 5 [(0, .ref h0), (1, .int (nI k))] := by rw [← hxk]; exact hl
    refine lv_iload_n hx hb d_P_pairAt_6 rfl (lv_at hl 1 rfl) ?_
    refine lv_istore_n (lv' := [(2, .int (nI k)), (0, .ref h0), (1, .int (nI k))]) hx hb d_P_pairAt_7 rfl hl (by decide) rfl (fun ls hl => ?_)
    refine lv_iconst (v := nI 0) hx hb d_P_pairAt_8 (by decide) ?_
    refine lv_istore_n (lv' := [(3, .int (nI 0)), (2, .int (nI k)), (0, .ref h0), (1, .int (nI k))]) hx hb d_P_pairAt_9 rfl hl (by decide) rfl (fun ls hl => ?_)
    have lp : ∀ (kf : Nat) (i : Nat), 32 - i < kf → i ≤ 32 → rk_sz r0 i ≤ k → ∀ (ls : Array Slot) (H : Heap) (locs : List Loc), lv_has ls 5 [(3, .int (nI i)), (2, .int (nI (k - rk_sz r0 i))), (0, .ref h0), (1, .int (nI k))] → va_P (dC, dI) classes [(h0, .inr (0, [.ref q0])), (q0, .inl (cI, 32, .inl r0))] H → va_D (va_A [(h0, .inr (0, [.ref q0])), (q0, .inl (cI, 32, .inl r0))] sz) [(h0, .inr (0, [.ref q0])), (q0, .inl (cI, 32, .inl r0))] → va_S (va_A [(h0, .inr (0, [.ref q0])), (q0, .inl (cI, 32, .inl r0))] sz) s.heap H locs → W p l e { frames := 2, cells := 0, slots := 0, locals := 44 } s m ([.ref h0, .int x]).toArray below meth c H locs 0 0 (MQ below (va_Qi (fun (r : Int32) (u : Unit) => rk_nth f0 x r) (fun _ s9 => rk_at (dC, dI) [(cI, .int), (cZ, .boolean), (cJ, .long)] (va_A [(h0, .inr (0, [.ref q0])), (q0, .inl (cI, 32, .inl r0))] sz) [(h0, .inr (0, [.ref q0])), (q0, .inl (cI, 32, .inl r0))] s9) (va_A [(h0, .inr (0, [.ref q0])), (q0, .inl (cI, 32, .inl r0))] sz)) ([.ref h0, .int x]).toArray s 0 0 (va_A [(h0, .inr (0, [.ref q0])), (q0, .inl (cI, 32, .inl r0))] sz)) (F0 m 10 ls []) := by
      intro kf
      induction kf with
      | zero => intro i hk hi hj; exact absurd hk (by omega)
      | succ kf ih =>
        intro i hk hi hj ls H locs hl hP hD hS
        have hsl := rk_sz_le r0 i
        have hcl := rk_c_le (bt (r0 i)) 32
        have hse := rk_sz_eq hR hi
        refine lv_iload_n hx hb d_P_pairAt_10 rfl (lv_at hl 0 rfl) ?_
        refine lv_bipush (v := nI 32) hx hb d_P_pairAt_11 (by decide) ?_
        refine lv_icmp_ge (tgt := 59) hx hb d_P_pairAt_13 (by decide) (fun hc2 => ?_) (fun hc2 => ?_)
        · have hc2 := (nI_leI (by omega) (by omega)).mp hc2
          refine lv_iconst (v := -1) hx hb d_P_pairAt_59 (by decide) ?_
          exact rk_iret (()) hx hb hr hlocks (Or.inr ⟨fun p hp9 hq9 => by rw [hxk]; intro z9; have h9 := rk_c_lt hq9 hp9; rw [nI_eq hk0 (by have := rk_c_le f0 p; omega)] at z9; rw [show 32 * i = 1024 by omega] at hse; omega, rfl⟩) rfl hP hK hD hS d_P_pairAt_60
        · have hc2 := rk_gt (by omega) (by omega) hc2
          refine lv_aload_n hx hb d_P_pairAt_16 rfl (lv_at hl 2 rfl) ?_
          refine va_get (D := (dC, dI)) (ci := 0) (v := .ref q0) (C := R_P) (T := F_P) (N := 1) hx hb htw u_P hown hK hP 0 rfl rfl 0 (by decide) (htw _ l_P_9) (fun _ h9 => h9) rfl d_P_pairAt_17 ?_
          refine lv_iload_n hx hb d_P_pairAt_20 rfl (lv_at hl 0 rfl) ?_
          refine va_iald hx hb hK hP 1 0 rfl rfl (vp_in_nI (n := i) (show i < 32 by omega) (by decide)) d_P_pairAt_21 ?_
          refine rk_top (y := r0 i) (congrArg r0 (nI_clamp (show i < 2 ^ 31 by omega))) ?_
          refine rk_backi (wc := []) (wr := [(h0, .inr (0, [.ref q0])), (q0, .inl (cI, 32, .inl r0))]) (va_runS (As := [.int (r0 i)]) (rest := []) ⟨hx, hb, hml, hown, htw⟩ (c_JI_bitCount l dC dI cI cZ cJ _ (r0 i)) (rk_cwS 1 htw gc_P_pairAt_22 (by decide +kernel) ⟨(Nat.le_of_ble_eq_true rfl), (Nat.le_of_ble_eq_true rfl)⟩) (⟨rk_blind, rk_give (rk_psub (isC := []) hP rfl) hK (hD.sub [] rfl rfl)⟩) rfl rfl hl.1 rfl (lv_room (Nat.le_of_ble_eq_true rfl)) d_P_pairAt_22 ⟨(Nat.le_of_ble_eq_true rfl), (Nat.le_of_ble_eq_true rfl)⟩) hP hD hS hA [] [0, 1] rfl rfl rfl (by decide) (fun x5 u5 H locs hp hP hD hS => ?_)
          subst hp
          have hP : va_P (dC, dI) classes [(h0, .inr (0, [.ref q0])), (q0, .inl (cI, 32, .inl r0))] H := hP
          have hD : va_D _ [(h0, .inr (0, [.ref q0])), (q0, .inl (cI, 32, .inl r0))] := hD
          refine lv_istore (lv' := [(4, .int (nI (rk_c (bt (r0 i)) 32))), (3, .int (nI i)), (2, .int (nI (k - rk_sz r0 i))), (0, .ref h0), (1, .int (nI k))]) hx hb d_P_pairAt_25 hl (by decide) rfl (fun ls hl => ?_)
          refine lv_iload_n hx hb d_P_pairAt_27 rfl (lv_at hl 2 rfl) ?_
          refine lv_iload hx hb d_P_pairAt_28 (lv_at hl 0 rfl) ?_
          refine lv_icmp_ge (tgt := 48) hx hb d_P_pairAt_30 (by decide) (fun hc3 => ?_) (fun hc3 => ?_)
          · have hc3 := (nI_leI (by omega) (by omega)).mp hc3
            refine lv_iload_n hx hb d_P_pairAt_48 rfl (lv_at hl 2 rfl) ?_
            refine lv_iload hx hb d_P_pairAt_49 (lv_at hl 0 rfl) ?_
            refine lv_isub hx hb d_P_pairAt_51 ?_
            refine rk_top (y := nI (k - rk_sz r0 (i + 1))) (by rw [pk_sub hc3, rk_sz_s, Nat.sub_sub]) ?_
            refine lv_istore_n (lv' := [(2, .int (nI (k - rk_sz r0 (i + 1)))), (4, .int (nI (rk_c (bt (r0 i)) 32))), (3, .int (nI i)), (0, .ref h0), (1, .int (nI k))]) hx hb d_P_pairAt_52 rfl hl (by decide) rfl (fun ls hl => ?_)
            refine lv_iinc (k := 2) (v := nI (i + 1)) (lv' := [(3, .int (nI (i + 1))), (2, .int (nI (k - rk_sz r0 (i + 1)))), (4, .int (nI (rk_c (bt (r0 i)) 32))), (0, .ref h0), (1, .int (nI k))]) hx hb d_P_pairAt_53 hl rfl (nI_1 i) (by decide) rfl (fun ls hl => ?_)
            refine lv_goto (tgt := 10) hx hb d_P_pairAt_56 (by decide) ?_
            have hl := lv_sub (l' := [(3, .int (nI (i + 1))), (2, .int (nI (k - rk_sz r0 (i + 1)))), (0, .ref h0), (1, .int (nI k))]) hl [0, 1, 3, 4] rfl
            exact ih (i + 1) (by omega) (by omega) (by rw [rk_sz_s]; omega) ls H locs hl hP hD hS
          · have hc3 := rk_gt (by omega) (by omega) hc3
            refine lv_iload_n hx hb d_P_pairAt_33 rfl (lv_at hl 1 rfl) ?_
            refine lv_aload_n hx hb d_P_pairAt_34 rfl (lv_at hl 3 rfl) ?_
            refine va_get (D := (dC, dI)) (ci := 0) (v := .ref q0) (C := R_P) (T := F_P) (N := 1) hx hb htw u_P hown hK hP 0 rfl rfl 0 (by decide) (htw _ l_P_9) (fun _ h9 => h9) rfl d_P_pairAt_35 ?_
            refine lv_iload_n hx hb d_P_pairAt_38 rfl (lv_at hl 1 rfl) ?_
            refine va_iald hx hb hK hP 1 0 rfl rfl (vp_in_nI (n := i) (show i < 32 by omega) (by decide)) d_P_pairAt_39 ?_
            refine rk_top (y := r0 i) (congrArg r0 (nI_clamp (show i < 2 ^ 31 by omega))) ?_
            refine lv_iload_n hx hb d_P_pairAt_40 rfl (lv_at hl 2 rfl) ?_
            refine rk_backi (wc := []) (wr := [(h0, .inr (0, [.ref q0])), (q0, .inl (cI, 32, .inl r0))]) (va_runS (As := [.int (r0 i), .int (nI (k - rk_sz r0 i))]) (rest := [.int (nI i)]) ⟨hx, hb, hml, hown, htw⟩ (c_P_bitAt l dC dI cI cZ cJ _ (r0 i) (k - rk_sz r0 i) hc3) (rk_cwS 2 htw gc_P_pairAt_41 (by decide +kernel) ⟨(Nat.le_of_ble_eq_true rfl), (Nat.le_of_ble_eq_true rfl)⟩) (⟨rk_blind, rk_give (rk_psub (isC := []) hP rfl) hK (hD.sub [] rfl rfl)⟩) rfl rfl hl.1 rfl (lv_room (Nat.le_of_ble_eq_true rfl)) d_P_pairAt_41 ⟨(Nat.le_of_ble_eq_true rfl), (Nat.le_of_ble_eq_true rfl)⟩) hP hD hS hA [] [0, 1] rfl rfl rfl (by decide) (fun x6 u6 H locs hp6 hP hD hS => ?_)
            obtain ⟨b, hb32, hbt, hbc, rfl⟩ := hp6
            have hP : va_P (dC, dI) classes [(h0, .inr (0, [.ref q0])), (q0, .inl (cI, 32, .inl r0))] H := hP
            have hD : va_D _ [(h0, .inr (0, [.ref q0])), (q0, .inl (cI, 32, .inl r0))] := hD
            refine rk_backi (wc := []) (wr := [(h0, .inr (0, [.ref q0])), (q0, .inl (cI, 32, .inl r0))]) (va_runSN (As := [.int (nI i), .int (nI b)]) (rest := []) ⟨hx, hb, hml, hown, htw⟩ (c_K_numberOf l dC dI cI cZ cJ _ i b) (rk_cwN 2 htw hY.2.2.2.2.2.2.2.2.2.1 in_K co_K_numberOf st_K_numberOf (by decide +kernel) ⟨(Nat.le_of_ble_eq_true rfl), (Nat.le_of_ble_eq_true rfl)⟩) (⟨rk_blind, rk_give (rk_psub (isC := []) hP rfl) hK (hD.sub [] rfl rfl)⟩) rfl rfl hl.1 rfl (lv_room (Nat.le_of_ble_eq_true rfl)) d_P_pairAt_44 ⟨(Nat.le_of_ble_eq_true rfl), (Nat.le_of_ble_eq_true rfl)⟩) hP hD hS hA [] [0, 1] rfl rfl rfl (by decide) (fun x7 u7 H locs hp7 hP hD hS => ?_)
            subst hp7
            have hP : va_P (dC, dI) classes [(h0, .inr (0, [.ref q0])), (q0, .inl (cI, 32, .inl r0))] H := hP
            have hD : va_D _ [(h0, .inr (0, [.ref q0])), (q0, .inl (cI, 32, .inl r0))] := hD
            exact rk_iret (()) hx hb hr hlocks (Or.inl ⟨32 * i + b, by omega, by rw [← hR i (by omega) b hb32]; exact hbt, by rw [hxk, rk_c_add, ← hse, rk_c_congr (g := bt (r0 i)) (fun j hj => (hR i (by omega) j (by omega)).symm), hbc, Nat.add_sub_cancel' hj], rfl⟩) rfl hP hK hD hS d_P_pairAt_47
    exact lp 33 0 (by omega) (by omega) (Nat.zero_le _) ls _ _ hl hP hD hS
  · refine lv_iconst (v := -1) hx hb d_P_pairAt_4 (by decide) ?_
    exact rk_iret (()) hx hb hr hlocks (Or.inr ⟨fun p hp9 hq9 z9 => hc (by rw [z9]; exact nI_pos' (by have := rk_c_le f0 p; omega)), rfl⟩) rfl hP hK hD hS d_P_pairAt_5
set_option maxHeartbeats 4000000 in
set_option maxRecDepth 100000 in
theorem c_K_came (l : Launch) (hl9 : l.stackTraces = false) (dC : Nat → ClassId) (dI : Nat → Nat → Nat) (cI cZ cJ : ClassId) (sz : Nat) (h0 qt qe qs o1 o2 o3 o4 o5 : Nat) (g : Nat) (q4 : Nat) (r4 : Nat → Int32) (f0 : Nat → Bool) (hR : rk_R r4 f0) (x : Int32) : vx_Met l y_K_came (.code y_K_came b_K_came 2 (some .int) :: WT) { frames := 7, cells := 1, slots := 6, locals := 102 } (va_Pc [.ref h0, .int x] (rk_preX (dC, dI) [(cI, .int), (cZ, .boolean), (cJ, .long)] sz [(h0, .inr (1, [.ref qt, .ref qe, .ref qs, .int (nI g), .ref o1, .ref o2, .ref o3, .ref o4, .ref o5])), (o4, .inr (0, [.ref q4])), (q4, .inl (cI, 32, .inl r4))])) (va_Qi (fun (r : Int32) (u : Unit) => ∃ p, p < 1024 ∧ f0 p = true ∧ x = nI (rk_c f0 p) ∧ r = nI p) (fun _ s9 => rk_at (dC, dI) [(cI, .int), (cZ, .boolean), (cJ, .long)] (va_A [(h0, .inr (1, [.ref qt, .ref qe, .ref qs, .int (nI g), .ref o1, .ref o2, .ref o3, .ref o4, .ref o5])), (o4, .inr (0, [.ref q4])), (q4, .inl (cI, 32, .inl r4))] sz) [(h0, .inr (1, [.ref qt, .ref qe, .ref qs, .int (nI g), .ref o1, .ref o2, .ref o3, .ref o4, .ref o5])), (o4, .inr (0, [.ref q4])), (q4, .inl (cI, 32, .inl r4))] s9) (va_A [(h0, .inr (1, [.ref qt, .ref qe, .ref qs, .int (nI g), .ref o1, .ref o2, .ref o3, .ref o4, .ref o5])), (o4, .inr (0, [.ref q4])), (q4, .inl (cI, 32, .inl r4))] sz)) (rk_XC (dC, dI) [(cI, .int), (cZ, .boolean), (cJ, .long)] (va_A [(h0, .inr (1, [.ref qt, .ref qe, .ref qs, .int (nI g), .ref o1, .ref o2, .ref o3, .ref o4, .ref o5])), (o4, .inr (0, [.ref q4])), (q4, .inl (cI, 32, .inl r4))] sz) [(h0, .inr (1, [.ref qt, .ref qe, .ref qs, .int (nI g), .ref o1, .ref o2, .ref o3, .ref o4, .ref o5])), (o4, .inr (0, [.ref q4])), (q4, .inl (cI, 32, .inl r4))] (fun E => E = rk_NSE ∧ ∀ p, p < 1024 → f0 p = true → x ≠ nI (rk_c f0 p))) 1 6 (va_A [(h0, .inr (1, [.ref qt, .ref qe, .ref qs, .int (nI g), .ref o1, .ref o2, .ref o3, .ref o4, .ref o5])), (o4, .inr (0, [.ref q4])), (q4, .inl (cI, 32, .inl r4))] sz) := by
  refine rk_bodyX (by decide) (Nat.le_of_ble_eq_true rfl) ?_
  intro p e s m below meth c hx hb hml hr htw hown hlocks hin hsz hP hK hD hA hS hY hZ hout ls hl
  have hown : s.vm.findClass R_K = some m.cls := hown
  have hl : lv_has ls 2 [(0, .ref h0), (1, .int x)] := hl
  refine lv_aload_n hx hb d_K_came_0 rfl (lv_at hl 0 rfl) ?_
  refine va_get (D := (dC, dI)) (ci := 1) (v := .ref o4) (C := R_K) (T := F_K) (N := 9) hx hb htw u_K hown hK hP 0 rfl rfl 7 (by decide) (htw _ l_K_36) (fun _ h9 => h9) rfl d_K_came_1 ?_
  refine lv_iload_n hx hb d_K_came_4 rfl (lv_at hl 1 rfl) ?_
  refine rk_backi (wc := [(o4, .inr (0, [.ref q4])), (q4, .inl (cI, 32, .inl r4))]) (wr := [(h0, .inr (1, [.ref qt, .ref qe, .ref qs, .int (nI g), .ref o1, .ref o2, .ref o3, .ref o4, .ref o5]))]) (va_runV (As := [.int x]) (rest := []) ⟨hx, hb, hml, hown, htw⟩ (c_P_pairAt l hl9 dC dI cI cZ cJ _ o4 q4 r4 f0 hR x) (rk_cwV 1 htw gc_K_came_5 (by decide +kernel) ⟨(Nat.le_of_ble_eq_true rfl), (Nat.le_of_ble_eq_true rfl)⟩) (⟨rk_blindX, va_recv hK hP (ci := 0) rfl (q0 := 1) rfl, rk_giveX [1, 2] hP hK hD hY hZ hS hA rfl rfl⟩) rfl rfl hl.1 rfl (lv_room (Nat.le_of_ble_eq_true rfl)) d_K_came_5 ⟨(Nat.le_of_ble_eq_true rfl), (Nat.le_of_ble_eq_true rfl)⟩) hP hD hS hA [1, 2] [0] rfl rfl rfl (by decide) (fun z5 u5 H locs hp5 hP hD hS => ?_)
  have hP : va_P (dC, dI) classes [(h0, .inr (1, [.ref qt, .ref qe, .ref qs, .int (nI g), .ref o1, .ref o2, .ref o3, .ref o4, .ref o5])), (o4, .inr (0, [.ref q4])), (q4, .inl (cI, 32, .inl r4))] H := hP
  have hD : va_D _ [(h0, .inr (1, [.ref qt, .ref qe, .ref qs, .int (nI g), .ref o1, .ref o2, .ref o3, .ref o4, .ref o5])), (o4, .inr (0, [.ref q4])), (q4, .inl (cI, 32, .inl r4))] := hD
  refine rk_xbacki (wc := []) (wr := [(h0, .inr (1, [.ref qt, .ref qe, .ref qs, .int (nI g), .ref o1, .ref o2, .ref o3, .ref o4, .ref o5])), (o4, .inr (0, [.ref q4])), (q4, .inl (cI, 32, .inl r4))]) (wx := []) (vx_runS (As := [.int z5]) (rest := []) ⟨hx, hb, hml, hown, htw⟩ (c_K_requirePair l hl9 dC dI cI cZ cJ _ z5) (rk_cwS 1 htw gc_K_came_8 (by decide +kernel) ⟨(Nat.le_of_ble_eq_true rfl), (Nat.le_of_ble_eq_true rfl)⟩) (⟨rk_blindX, rk_giveX [] hP hK hD hY hZ hS hA rfl rfl⟩) rfl rfl hl.1 rfl (lv_room (Nat.le_of_ble_eq_true rfl)) d_K_came_8 ⟨(Nat.le_of_ble_eq_true rfl), (Nat.le_of_ble_eq_true rfl)⟩) hP hD hS hA [] [0, 1, 2] rfl rfl rfl (by decide) (fun E ce q9 H locs hpx hP hD hS hce hcv hcl => ?_) (fun z6 u6 H locs hp6 hP hD hS => ?_)
  · have hP : va_P (dC, dI) classes [(h0, .inr (1, [.ref qt, .ref qe, .ref qs, .int (nI g), .ref o1, .ref o2, .ref o3, .ref o4, .ref o5])), (o4, .inr (0, [.ref q4])), (q4, .inl (cI, 32, .inl r4))] H := hP
    have hD : va_D _ [(h0, .inr (1, [.ref qt, .ref qe, .ref qs, .int (nI g), .ref o1, .ref o2, .ref o3, .ref o4, .ref o5])), (o4, .inr (0, [.ref q4])), (q4, .inl (cI, 32, .inl r4))] := hD
    exact rk_xout hout hlocks hce hcv hcl (⟨hpx.1, by rcases hp5 with ⟨p, h1, h2, h3, h4⟩ | z9; exact absurd (h4.symm.trans hpx.2) (rk_nI_ne p (by omega)); exact z9.1⟩) hP hK hD hS (by omega) (by omega)
  obtain ⟨rfl, hne⟩ := hp6
  have hP : va_P (dC, dI) classes [(h0, .inr (1, [.ref qt, .ref qe, .ref qs, .int (nI g), .ref o1, .ref o2, .ref o3, .ref o4, .ref o5])), (o4, .inr (0, [.ref q4])), (q4, .inl (cI, 32, .inl r4))] H := hP
  have hD : va_D _ [(h0, .inr (1, [.ref qt, .ref qe, .ref qs, .int (nI g), .ref o1, .ref o2, .ref o3, .ref o4, .ref o5])), (o4, .inr (0, [.ref q4])), (q4, .inl (cI, 32, .inl r4))] := hD
  refine vx_ret (W.widen (k := 1) (n := 6) (by omega) (by omega) ?_)
  exact rk_iret (()) hx hb hr hlocks (by rcases hp5 with z9 | z9; exact z9; exact absurd z9.2 hne) rfl hP hK hD hS d_K_came_11
set_option maxHeartbeats 4000000 in
set_option maxRecDepth 100000 in
theorem c_K_went (l : Launch) (hl9 : l.stackTraces = false) (dC : Nat → ClassId) (dI : Nat → Nat → Nat) (cI cZ cJ : ClassId) (sz : Nat) (h0 qt qe qs o1 o2 o3 o4 o5 : Nat) (g : Nat) (q5 : Nat) (r5 : Nat → Int32) (f0 : Nat → Bool) (hR : rk_R r5 f0) (x : Int32) : vx_Met l y_K_went (.code y_K_went b_K_went 2 (some .int) :: WT) { frames := 7, cells := 1, slots := 6, locals := 102 } (va_Pc [.ref h0, .int x] (rk_preX (dC, dI) [(cI, .int), (cZ, .boolean), (cJ, .long)] sz [(h0, .inr (1, [.ref qt, .ref qe, .ref qs, .int (nI g), .ref o1, .ref o2, .ref o3, .ref o4, .ref o5])), (o5, .inr (0, [.ref q5])), (q5, .inl (cI, 32, .inl r5))])) (va_Qi (fun (r : Int32) (u : Unit) => ∃ p, p < 1024 ∧ f0 p = true ∧ x = nI (rk_c f0 p) ∧ r = nI p) (fun _ s9 => rk_at (dC, dI) [(cI, .int), (cZ, .boolean), (cJ, .long)] (va_A [(h0, .inr (1, [.ref qt, .ref qe, .ref qs, .int (nI g), .ref o1, .ref o2, .ref o3, .ref o4, .ref o5])), (o5, .inr (0, [.ref q5])), (q5, .inl (cI, 32, .inl r5))] sz) [(h0, .inr (1, [.ref qt, .ref qe, .ref qs, .int (nI g), .ref o1, .ref o2, .ref o3, .ref o4, .ref o5])), (o5, .inr (0, [.ref q5])), (q5, .inl (cI, 32, .inl r5))] s9) (va_A [(h0, .inr (1, [.ref qt, .ref qe, .ref qs, .int (nI g), .ref o1, .ref o2, .ref o3, .ref o4, .ref o5])), (o5, .inr (0, [.ref q5])), (q5, .inl (cI, 32, .inl r5))] sz)) (rk_XC (dC, dI) [(cI, .int), (cZ, .boolean), (cJ, .long)] (va_A [(h0, .inr (1, [.ref qt, .ref qe, .ref qs, .int (nI g), .ref o1, .ref o2, .ref o3, .ref o4, .ref o5])), (o5, .inr (0, [.ref q5])), (q5, .inl (cI, 32, .inl r5))] sz) [(h0, .inr (1, [.ref qt, .ref qe, .ref qs, .int (nI g), .ref o1, .ref o2, .ref o3, .ref o4, .ref o5])), (o5, .inr (0, [.ref q5])), (q5, .inl (cI, 32, .inl r5))] (fun E => E = rk_NSE ∧ ∀ p, p < 1024 → f0 p = true → x ≠ nI (rk_c f0 p))) 1 6 (va_A [(h0, .inr (1, [.ref qt, .ref qe, .ref qs, .int (nI g), .ref o1, .ref o2, .ref o3, .ref o4, .ref o5])), (o5, .inr (0, [.ref q5])), (q5, .inl (cI, 32, .inl r5))] sz) := by
  refine rk_bodyX (by decide) (Nat.le_of_ble_eq_true rfl) ?_
  intro p e s m below meth c hx hb hml hr htw hown hlocks hin hsz hP hK hD hA hS hY hZ hout ls hl
  have hown : s.vm.findClass R_K = some m.cls := hown
  have hl : lv_has ls 2 [(0, .ref h0), (1, .int x)] := hl
  refine lv_aload_n hx hb d_K_went_0 rfl (lv_at hl 0 rfl) ?_
  refine va_get (D := (dC, dI)) (ci := 1) (v := .ref o5) (C := R_K) (T := F_K) (N := 9) hx hb htw u_K hown hK hP 0 rfl rfl 8 (by decide) (htw _ l_K_39) (fun _ h9 => h9) rfl d_K_went_1 ?_
  refine lv_iload_n hx hb d_K_went_4 rfl (lv_at hl 1 rfl) ?_
  refine rk_backi (wc := [(o5, .inr (0, [.ref q5])), (q5, .inl (cI, 32, .inl r5))]) (wr := [(h0, .inr (1, [.ref qt, .ref qe, .ref qs, .int (nI g), .ref o1, .ref o2, .ref o3, .ref o4, .ref o5]))]) (va_runV (As := [.int x]) (rest := []) ⟨hx, hb, hml, hown, htw⟩ (c_P_pairAt l hl9 dC dI cI cZ cJ _ o5 q5 r5 f0 hR x) (rk_cwV 1 htw gc_K_went_5 (by decide +kernel) ⟨(Nat.le_of_ble_eq_true rfl), (Nat.le_of_ble_eq_true rfl)⟩) (⟨rk_blindX, va_recv hK hP (ci := 0) rfl (q0 := 1) rfl, rk_giveX [1, 2] hP hK hD hY hZ hS hA rfl rfl⟩) rfl rfl hl.1 rfl (lv_room (Nat.le_of_ble_eq_true rfl)) d_K_went_5 ⟨(Nat.le_of_ble_eq_true rfl), (Nat.le_of_ble_eq_true rfl)⟩) hP hD hS hA [1, 2] [0] rfl rfl rfl (by decide) (fun z5 u5 H locs hp5 hP hD hS => ?_)
  have hP : va_P (dC, dI) classes [(h0, .inr (1, [.ref qt, .ref qe, .ref qs, .int (nI g), .ref o1, .ref o2, .ref o3, .ref o4, .ref o5])), (o5, .inr (0, [.ref q5])), (q5, .inl (cI, 32, .inl r5))] H := hP
  have hD : va_D _ [(h0, .inr (1, [.ref qt, .ref qe, .ref qs, .int (nI g), .ref o1, .ref o2, .ref o3, .ref o4, .ref o5])), (o5, .inr (0, [.ref q5])), (q5, .inl (cI, 32, .inl r5))] := hD
  refine rk_xbacki (wc := []) (wr := [(h0, .inr (1, [.ref qt, .ref qe, .ref qs, .int (nI g), .ref o1, .ref o2, .ref o3, .ref o4, .ref o5])), (o5, .inr (0, [.ref q5])), (q5, .inl (cI, 32, .inl r5))]) (wx := []) (vx_runS (As := [.int z5]) (rest := []) ⟨hx, hb, hml, hown, htw⟩ (c_K_requirePair l hl9 dC dI cI cZ cJ _ z5) (rk_cwS 1 htw gc_K_went_8 (by decide +kernel) ⟨(Nat.le_of_ble_eq_true rfl), (Nat.le_of_ble_eq_true rfl)⟩) (⟨rk_blindX, rk_giveX [] hP hK hD hY hZ hS hA rfl rfl⟩) rfl rfl hl.1 rfl (lv_room (Nat.le_of_ble_eq_true rfl)) d_K_went_8 ⟨(Nat.le_of_ble_eq_true rfl), (Nat.le_of_ble_eq_true rfl)⟩) hP hD hS hA [] [0, 1, 2] rfl rfl rfl (by decide) (fun E ce q9 H locs hpx hP hD hS hce hcv hcl => ?_) (fun z6 u6 H locs hp6 hP hD hS => ?_)
  · have hP : va_P (dC, dI) classes [(h0, .inr (1, [.ref qt, .ref qe, .ref qs, .int (nI g), .ref o1, .ref o2, .ref o3, .ref o4, .ref o5])), (o5, .inr (0, [.ref q5])), (q5, .inl (cI, 32, .inl r5))] H := hP
    have hD : va_D _ [(h0, .inr (1, [.ref qt, .ref qe, .ref qs, .int (nI g), .ref o1, .ref o2, .ref o3, .ref o4, .ref o5])), (o5, .inr (0, [.ref q5])), (q5, .inl (cI, 32, .inl r5))] := hD
    exact rk_xout hout hlocks hce hcv hcl (⟨hpx.1, by rcases hp5 with ⟨p, h1, h2, h3, h4⟩ | z9; exact absurd (h4.symm.trans hpx.2) (rk_nI_ne p (by omega)); exact z9.1⟩) hP hK hD hS (by omega) (by omega)
  obtain ⟨rfl, hne⟩ := hp6
  have hP : va_P (dC, dI) classes [(h0, .inr (1, [.ref qt, .ref qe, .ref qs, .int (nI g), .ref o1, .ref o2, .ref o3, .ref o4, .ref o5])), (o5, .inr (0, [.ref q5])), (q5, .inl (cI, 32, .inl r5))] H := hP
  have hD : va_D _ [(h0, .inr (1, [.ref qt, .ref qe, .ref qs, .int (nI g), .ref o1, .ref o2, .ref o3, .ref o4, .ref o5])), (o5, .inr (0, [.ref q5])), (q5, .inl (cI, 32, .inl r5))] := hD
  refine vx_ret (W.widen (k := 1) (n := 6) (by omega) (by omega) ?_)
  exact rk_iret (()) hx hb hr hlocks (by rcases hp5 with z9 | z9; exact z9; exact absurd z9.2 hne) rfl hP hK hD hS d_K_went_11
end
section
set_option maxHeartbeats 4000000 in
set_option maxRecDepth 100000 in
theorem c_P_init (l : Launch) (dC : Nat → ClassId) (dI : Nat → Nat → Nat) (cI cZ cJ : ClassId) (sz : Nat) (h0 : Nat) : Met l y_P_init (.code y_P_init b_P_init 1 none :: WT) { frames := 1, cells := 1, slots := 32, locals := 12 } (va_Pc [.ref h0] (rk_pre (dC, dI) [(cI, .int), (cZ, .boolean), (cJ, .long)] sz [(h0, .inr (0, [.null]))])) (va_Qv (fun (u : Nat) => True) (fun u s9 => rk_at (dC, dI) [(cI, .int), (cZ, .boolean), (cJ, .long)] (va_A [(h0, .inr (0, [.null]))] sz) [(h0, .inr (0, [.ref u])), (u, .inl (cI, 32, .inl (fun _ => 0)))] s9) (va_A [(h0, .inr (0, [.null]))] sz)) 1 32 (va_A [(h0, .inr (0, [.null]))] sz) := by
  refine rk_body (by decide) (Nat.le_of_ble_eq_true rfl) ?_
  intro p e s m below meth c hx hb hml hr htw hown hlocks hin hsz hP hK hD hA hS ls hl
  have hown : s.vm.findClass R_P = some m.cls := hown
  have hl : lv_has ls 1 [(0, .ref h0)] := hl
  have hin : meth.name = "<init>" := hin
  refine lv_aload_n hx hb d_P_init_0 rfl (lv_at hl 0 rfl) ?_
  refine W.objInit hx hb hown (htw _ ml_P_3) (htw _ im_objectInit) (htw _ co_objectInit) rfl (by rw [hml]; exact hl.1) rfl d_P_init_1 (Nat.le_of_ble_eq_true rfl) (Nat.le_of_ble_eq_true rfl) ?_
  refine W.eq (g2 := F0 m 4 ls []) rfl ?_
  refine lv_aload_n hx hb d_P_init_4 rfl (lv_at hl 0 rfl) ?_
  refine lv_bipush (v := nI 32) hx hb d_P_init_5 (by decide) ?_
  refine va_newa (atype := .int) (ty := .int) (N' := 32) (a0 := (32, .inl (fun _ => 0))) hx hb (htw _ ac_int) rfl hK hP hD hS hA (fun _ => rfl) (by decide) (by decide) (by decide) (Nat.le_of_ble_eq_true rfl) (Nat.le_of_ble_eq_true rfl) d_P_init_7 (fun a1 cA H hK9 hP hD hS => ?_)
  have ec := rk_eqI hK hK9
  subst ec
  have hP : va_P (dC, dI) classes [(h0, .inr (0, [.null])), (a1, .inl (cI, 32, .inl (fun _ => 0)))] H := hP
  have hD : va_D _ [(h0, .inr (0, [.null])), (a1, .inl (cI, 32, .inl (fun _ => 0)))] := hD
  refine va_putF (D := (dC, dI)) (ci := 0) (v := .ref a1) (ty := .array .int) (C := R_P) (T := F_P) (N := 1) hx hb htw u_P t_P t_P_ok n_P hown hK hP hD hS 0 rfl rfl 0 (by decide) (htw _ l_P_9) (fun _ h9 => h9) rfl hin rfl (by decide +kernel) rfl rfl (Nat.le_of_ble_eq_true rfl) d_P_init_9 (fun H locs hP hD hS => ?_)
  have hP : va_P (dC, dI) classes [(h0, .inr (0, [.ref a1])), (a1, .inl (cI, 32, .inl (fun _ => 0)))] H := hP
  have hD : va_D _ [(h0, .inr (0, [.ref a1])), (a1, .inl (cI, 32, .inl (fun _ => 0)))] := hD
  refine W.widen (k := 1) (n := 32) (by omega) (by omega) ?_
  exact rk_vret (a1) hx hb hr hlocks (trivial) rfl hP hK hD hS d_P_init_12
set_option maxHeartbeats 4000000 in
set_option maxRecDepth 100000 in
theorem c_K_init (l : Launch) (dC : Nat → ClassId) (dI : Nat → Nat → Nat) (cI cZ cJ : ClassId) (sz : Nat) (h0 : Nat) : Met l y_K_init (.code y_K_init b_K_init 1 none :: WT) { frames := 2, cells := 13, slots := 2273, locals := 32 } (va_Pc [.ref h0] (rk_pre (dC, dI) [(cI, .int), (cZ, .boolean), (cJ, .long)] sz [(h0, .inr (1, [.null, .null, .null, .int 0, .null, .null, .null, .null, .null]))])) (va_Qv (fun (u : Nat × Nat × Nat × Nat × Nat × Nat × Nat × Nat × Nat × Nat × Nat × Nat × Nat) => True) (fun u s9 => rk_at (dC, dI) [(cI, .int), (cZ, .boolean), (cJ, .long)] (va_A [(h0, .inr (1, [.null, .null, .null, .int 0, .null, .null, .null, .null, .null]))] sz) [(h0, .inr (1, [.ref u.1, .ref u.2.1, .ref u.2.2.1, .int (nI 0), .ref u.2.2.2.1, .ref u.2.2.2.2.1, .ref u.2.2.2.2.2.1, .ref u.2.2.2.2.2.2.1, .ref u.2.2.2.2.2.2.2.1])), (u.1, .inl (cI, 1024, .inl (fun _ => 0))), (u.2.1, .inl (cI, 60, .inl (fun _ => 0))), (u.2.2.1, .inl (cI, 1024, .inl (fun _ => 0))), (u.2.2.2.1, .inr (0, [.ref u.2.2.2.2.2.2.2.2.1])), (u.2.2.2.2.2.2.2.2.1, .inl (cI, 32, .inl (fun _ => 0))), (u.2.2.2.2.1, .inr (0, [.ref u.2.2.2.2.2.2.2.2.2.1])), (u.2.2.2.2.2.2.2.2.2.1, .inl (cI, 32, .inl (fun _ => 0))), (u.2.2.2.2.2.1, .inr (0, [.ref u.2.2.2.2.2.2.2.2.2.2.1])), (u.2.2.2.2.2.2.2.2.2.2.1, .inl (cI, 32, .inl (fun _ => 0))), (u.2.2.2.2.2.2.1, .inr (0, [.ref u.2.2.2.2.2.2.2.2.2.2.2.1])), (u.2.2.2.2.2.2.2.2.2.2.2.1, .inl (cI, 32, .inl (fun _ => 0))), (u.2.2.2.2.2.2.2.1, .inr (0, [.ref u.2.2.2.2.2.2.2.2.2.2.2.2])), (u.2.2.2.2.2.2.2.2.2.2.2.2, .inl (cI, 32, .inl (fun _ => 0)))] s9) (va_A [(h0, .inr (1, [.null, .null, .null, .int 0, .null, .null, .null, .null, .null]))] sz)) 13 2273 (va_A [(h0, .inr (1, [.null, .null, .null, .int 0, .null, .null, .null, .null, .null]))] sz) := by
  refine rk_body (by decide) (Nat.le_of_ble_eq_true rfl) ?_
  intro p e s m below meth c hx hb hml hr htw hown hlocks hin hsz hP hK hD hA hS ls hl
  have hown : s.vm.findClass R_K = some m.cls := hown
  have hl : lv_has ls 1 [(0, .ref h0)] := hl
  have hin : meth.name = "<init>" := hin
  refine lv_aload_n hx hb d_K_init_0 rfl (lv_at hl 0 rfl) ?_
  refine W.objInit hx hb hown (htw _ ml_K_1) (htw _ im_objectInit) (htw _ co_objectInit) rfl (by rw [hml]; exact hl.1) rfl d_K_init_1 (Nat.le_of_ble_eq_true rfl) (Nat.le_of_ble_eq_true rfl) ?_
  refine W.eq (g2 := F0 m 4 ls []) rfl ?_
  refine lv_aload_n hx hb d_K_init_4 rfl (lv_at hl 0 rfl) ?_
  refine lv_sipush (v := nI 1024) hx hb d_K_init_5 (by decide) ?_
  refine va_newa (atype := .int) (ty := .int) (N' := 1024) (a0 := (1024, .inl (fun _ => 0))) hx hb (htw _ ac_int) rfl hK hP hD hS hA (fun _ => rfl) (by decide) (by decide) (by decide) (Nat.le_of_ble_eq_true rfl) (Nat.le_of_ble_eq_true rfl) d_K_init_8 (fun a1 cA H hK9 hP hD hS => ?_)
  have ec := rk_eqI hK hK9
  subst ec
  have hP : va_P (dC, dI) classes [(h0, .inr (1, [.null, .null, .null, .int 0, .null, .null, .null, .null, .null])), (a1, .inl (cI, 1024, .inl (fun _ => 0)))] H := hP
  have hD : va_D _ [(h0, .inr (1, [.null, .null, .null, .int 0, .null, .null, .null, .null, .null])), (a1, .inl (cI, 1024, .inl (fun _ => 0)))] := hD
  refine va_putF (D := (dC, dI)) (ci := 1) (v := .ref a1) (ty := .array .int) (C := R_K) (T := F_K) (N := 9) hx hb htw u_K t_K t_K_ok n_K hown hK hP hD hS 0 rfl rfl 0 (by decide) (htw _ l_K_9) (fun _ h9 => h9) rfl hin rfl (by decide +kernel) rfl rfl (Nat.le_of_ble_eq_true rfl) d_K_init_10 (fun H locs hP hD hS => ?_)
  have hP : va_P (dC, dI) classes [(h0, .inr (1, [.ref a1, .null, .null, .int 0, .null, .null, .null, .null, .null])), (a1, .inl (cI, 1024, .inl (fun _ => 0)))] H := hP
  have hD : va_D _ [(h0, .inr (1, [.ref a1, .null, .null, .int 0, .null, .null, .null, .null, .null])), (a1, .inl (cI, 1024, .inl (fun _ => 0)))] := hD
  refine lv_aload_n hx hb d_K_init_13 rfl (lv_at hl 0 rfl) ?_
  refine lv_bipush (v := nI 60) hx hb d_K_init_14 (by decide) ?_
  refine va_newa (atype := .int) (ty := .int) (N' := 60) (a0 := (60, .inl (fun _ => 0))) hx hb (htw _ ac_int) rfl hK hP hD hS hA (fun _ => rfl) (by decide) (by decide) (by decide) (Nat.le_of_ble_eq_true rfl) (Nat.le_of_ble_eq_true rfl) d_K_init_16 (fun a2 cA H hK9 hP hD hS => ?_)
  have ec := rk_eqI hK hK9
  subst ec
  have hP : va_P (dC, dI) classes [(h0, .inr (1, [.ref a1, .null, .null, .int 0, .null, .null, .null, .null, .null])), (a1, .inl (cI, 1024, .inl (fun _ => 0))), (a2, .inl (cI, 60, .inl (fun _ => 0)))] H := hP
  have hD : va_D _ [(h0, .inr (1, [.ref a1, .null, .null, .int 0, .null, .null, .null, .null, .null])), (a1, .inl (cI, 1024, .inl (fun _ => 0))), (a2, .inl (cI, 60, .inl (fun _ => 0)))] := hD
  refine va_putF (D := (dC, dI)) (ci := 1) (v := .ref a2) (ty := .array .int) (C := R_K) (T := F_K) (N := 9) hx hb htw u_K t_K t_K_ok n_K hown hK hP hD hS 0 rfl rfl 1 (by decide) (htw _ l_K_13) (fun _ h9 => h9) rfl hin rfl (by decide +kernel) rfl rfl (Nat.le_of_ble_eq_true rfl) d_K_init_18 (fun H locs hP hD hS => ?_)
  have hP : va_P (dC, dI) classes [(h0, .inr (1, [.ref a1, .ref a2, .null, .int 0, .null, .null, .null, .null, .null])), (a1, .inl (cI, 1024, .inl (fun _ => 0))), (a2, .inl (cI, 60, .inl (fun _ => 0)))] H := hP
  have hD : va_D _ [(h0, .inr (1, [.ref a1, .ref a2, .null, .int 0, .null, .null, .null, .null, .null])), (a1, .inl (cI, 1024, .inl (fun _ => 0))), (a2, .inl (cI, 60, .inl (fun _ => 0)))] := hD
  refine lv_aload_n hx hb d_K_init_21 rfl (lv_at hl 0 rfl) ?_
  refine lv_sipush (v := nI 1024) hx hb d_K_init_22 (by decide) ?_
  refine va_newa (atype := .int) (ty := .int) (N' := 1024) (a0 := (1024, .inl (fun _ => 0))) hx hb (htw _ ac_int) rfl hK hP hD hS hA (fun _ => rfl) (by decide) (by decide) (by decide) (Nat.le_of_ble_eq_true rfl) (Nat.le_of_ble_eq_true rfl) d_K_init_25 (fun a3 cA H hK9 hP hD hS => ?_)
  have ec := rk_eqI hK hK9
  subst ec
  have hP : va_P (dC, dI) classes [(h0, .inr (1, [.ref a1, .ref a2, .null, .int 0, .null, .null, .null, .null, .null])), (a1, .inl (cI, 1024, .inl (fun _ => 0))), (a2, .inl (cI, 60, .inl (fun _ => 0))), (a3, .inl (cI, 1024, .inl (fun _ => 0)))] H := hP
  have hD : va_D _ [(h0, .inr (1, [.ref a1, .ref a2, .null, .int 0, .null, .null, .null, .null, .null])), (a1, .inl (cI, 1024, .inl (fun _ => 0))), (a2, .inl (cI, 60, .inl (fun _ => 0))), (a3, .inl (cI, 1024, .inl (fun _ => 0)))] := hD
  refine va_putF (D := (dC, dI)) (ci := 1) (v := .ref a3) (ty := .array .int) (C := R_K) (T := F_K) (N := 9) hx hb htw u_K t_K t_K_ok n_K hown hK hP hD hS 0 rfl rfl 2 (by decide) (htw _ l_K_16) (fun _ h9 => h9) rfl hin rfl (by decide +kernel) rfl rfl (Nat.le_of_ble_eq_true rfl) d_K_init_27 (fun H locs hP hD hS => ?_)
  have hP : va_P (dC, dI) classes [(h0, .inr (1, [.ref a1, .ref a2, .ref a3, .int 0, .null, .null, .null, .null, .null])), (a1, .inl (cI, 1024, .inl (fun _ => 0))), (a2, .inl (cI, 60, .inl (fun _ => 0))), (a3, .inl (cI, 1024, .inl (fun _ => 0)))] H := hP
  have hD : va_D _ [(h0, .inr (1, [.ref a1, .ref a2, .ref a3, .int 0, .null, .null, .null, .null, .null])), (a1, .inl (cI, 1024, .inl (fun _ => 0))), (a2, .inl (cI, 60, .inl (fun _ => 0))), (a3, .inl (cI, 1024, .inl (fun _ => 0)))] := hD
  refine lv_aload_n hx hb d_K_init_30 rfl (lv_at hl 0 rfl) ?_
  refine lv_iconst (v := nI 0) hx hb d_K_init_31 (by decide) ?_
  refine va_put (D := (dC, dI)) (ci := 1) (v := .int (nI 0)) (ty := .int) (C := R_K) (T := F_K) (N := 9) hx hb htw u_K t_K t_K_ok n_K hown hK hP hD hS 0 rfl rfl 3 (by decide) (htw _ l_K_19) (fun _ h9 => h9) rfl (by decide +kernel) rfl rfl (Nat.le_of_ble_eq_true rfl) d_K_init_32 (fun H locs hP hD hS => ?_)
  have hP : va_P (dC, dI) classes [(h0, .inr (1, [.ref a1, .ref a2, .ref a3, .int (nI 0), .null, .null, .null, .null, .null])), (a1, .inl (cI, 1024, .inl (fun _ => 0))), (a2, .inl (cI, 60, .inl (fun _ => 0))), (a3, .inl (cI, 1024, .inl (fun _ => 0)))] H := hP
  have hD : va_D _ [(h0, .inr (1, [.ref a1, .ref a2, .ref a3, .int (nI 0), .null, .null, .null, .null, .null])), (a1, .inl (cI, 1024, .inl (fun _ => 0))), (a2, .inl (cI, 60, .inl (fun _ => 0))), (a3, .inl (cI, 1024, .inl (fun _ => 0)))] := hD
  refine lv_aload_n hx hb d_K_init_35 rfl (lv_at hl 0 rfl) ?_
  refine va_new (ci := 0) (fs := [.null]) (C := R_P) (T := F_P) (N := 1) hx hb htw u_P t_P t_P_ok hown (htw _ cl_K_23) (htw _ it_P) (htw _ in_P) hK hP hD hS hA rfl (fun j hj => by rcases (show j = 0 by omega) with rfl <;> rfl) (Nat.le_of_ble_eq_true rfl) (Nat.le_of_ble_eq_true rfl) d_K_init_36 (fun b1 H hP hD hS => ?_)
  have hP : va_P (dC, dI) classes [(h0, .inr (1, [.ref a1, .ref a2, .ref a3, .int (nI 0), .null, .null, .null, .null, .null])), (a1, .inl (cI, 1024, .inl (fun _ => 0))), (a2, .inl (cI, 60, .inl (fun _ => 0))), (a3, .inl (cI, 1024, .inl (fun _ => 0))), (b1, .inr (0, [.null]))] H := hP
  have hD : va_D _ [(h0, .inr (1, [.ref a1, .ref a2, .ref a3, .int (nI 0), .null, .null, .null, .null, .null])), (a1, .inl (cI, 1024, .inl (fun _ => 0))), (a2, .inl (cI, 60, .inl (fun _ => 0))), (a3, .inl (cI, 1024, .inl (fun _ => 0))), (b1, .inr (0, [.null]))] := hD
  refine lv_dup hx hb d_K_init_39 rfl ?_
  refine rk_backv (wc := [(b1, .inr (0, [.null]))]) (wr := [(h0, .inr (1, [.ref a1, .ref a2, .ref a3, .int (nI 0), .null, .null, .null, .null, .null])), (a1, .inl (cI, 1024, .inl (fun _ => 0))), (a2, .inl (cI, 60, .inl (fun _ => 0))), (a3, .inl (cI, 1024, .inl (fun _ => 0)))]) (va_runI (As := []) (rest := [.ref b1, .ref h0]) ⟨hx, hb, hml, hown, htw⟩ (c_P_init l dC dI cI cZ cJ _ b1) (rk_cwI 0 htw gc_K_init_40 rfl (by decide +kernel) ⟨(Nat.le_of_ble_eq_true rfl), (Nat.le_of_ble_eq_true rfl)⟩) (⟨rk_blind, rk_give (rk_psub (isC := [4]) hP rfl) hK (hD.sub [4] rfl rfl)⟩) rfl rfl hl.1 rfl (lv_room (Nat.le_of_ble_eq_true rfl)) d_K_init_40 ⟨(Nat.le_of_ble_eq_true rfl), (Nat.le_of_ble_eq_true rfl)⟩) hP hD hS hA [4] [0, 1, 2, 3] rfl rfl rfl (by decide) (fun d1 H locs hp9 hP hD hS => ?_)
  have hP : va_P (dC, dI) classes [(h0, .inr (1, [.ref a1, .ref a2, .ref a3, .int (nI 0), .null, .null, .null, .null, .null])), (a1, .inl (cI, 1024, .inl (fun _ => 0))), (a2, .inl (cI, 60, .inl (fun _ => 0))), (a3, .inl (cI, 1024, .inl (fun _ => 0))), (b1, .inr (0, [.ref d1])), (d1, .inl (cI, 32, .inl (fun _ => 0)))] H := hP
  have hD : va_D _ [(h0, .inr (1, [.ref a1, .ref a2, .ref a3, .int (nI 0), .null, .null, .null, .null, .null])), (a1, .inl (cI, 1024, .inl (fun _ => 0))), (a2, .inl (cI, 60, .inl (fun _ => 0))), (a3, .inl (cI, 1024, .inl (fun _ => 0))), (b1, .inr (0, [.ref d1])), (d1, .inl (cI, 32, .inl (fun _ => 0)))] := hD
  refine va_putF (D := (dC, dI)) (ci := 1) (v := .ref b1) (ty := .object "ReachKeeper$PairSet") (C := R_K) (T := F_K) (N := 9) hx hb htw u_K t_K t_K_ok n_K hown hK hP hD hS 0 rfl rfl 4 (by decide) (htw _ l_K_26) (fun _ h9 => h9) rfl hin rfl (by decide +kernel) rfl rfl (Nat.le_of_ble_eq_true rfl) d_K_init_43 (fun H locs hP hD hS => ?_)
  have hP : va_P (dC, dI) classes [(h0, .inr (1, [.ref a1, .ref a2, .ref a3, .int (nI 0), .ref b1, .null, .null, .null, .null])), (a1, .inl (cI, 1024, .inl (fun _ => 0))), (a2, .inl (cI, 60, .inl (fun _ => 0))), (a3, .inl (cI, 1024, .inl (fun _ => 0))), (b1, .inr (0, [.ref d1])), (d1, .inl (cI, 32, .inl (fun _ => 0)))] H := hP
  have hD : va_D _ [(h0, .inr (1, [.ref a1, .ref a2, .ref a3, .int (nI 0), .ref b1, .null, .null, .null, .null])), (a1, .inl (cI, 1024, .inl (fun _ => 0))), (a2, .inl (cI, 60, .inl (fun _ => 0))), (a3, .inl (cI, 1024, .inl (fun _ => 0))), (b1, .inr (0, [.ref d1])), (d1, .inl (cI, 32, .inl (fun _ => 0)))] := hD
  refine lv_aload_n hx hb d_K_init_46 rfl (lv_at hl 0 rfl) ?_
  refine va_new (ci := 0) (fs := [.null]) (C := R_P) (T := F_P) (N := 1) hx hb htw u_P t_P t_P_ok hown (htw _ cl_K_23) (htw _ it_P) (htw _ in_P) hK hP hD hS hA rfl (fun j hj => by rcases (show j = 0 by omega) with rfl <;> rfl) (Nat.le_of_ble_eq_true rfl) (Nat.le_of_ble_eq_true rfl) d_K_init_47 (fun b2 H hP hD hS => ?_)
  have hP : va_P (dC, dI) classes [(h0, .inr (1, [.ref a1, .ref a2, .ref a3, .int (nI 0), .ref b1, .null, .null, .null, .null])), (a1, .inl (cI, 1024, .inl (fun _ => 0))), (a2, .inl (cI, 60, .inl (fun _ => 0))), (a3, .inl (cI, 1024, .inl (fun _ => 0))), (b1, .inr (0, [.ref d1])), (d1, .inl (cI, 32, .inl (fun _ => 0))), (b2, .inr (0, [.null]))] H := hP
  have hD : va_D _ [(h0, .inr (1, [.ref a1, .ref a2, .ref a3, .int (nI 0), .ref b1, .null, .null, .null, .null])), (a1, .inl (cI, 1024, .inl (fun _ => 0))), (a2, .inl (cI, 60, .inl (fun _ => 0))), (a3, .inl (cI, 1024, .inl (fun _ => 0))), (b1, .inr (0, [.ref d1])), (d1, .inl (cI, 32, .inl (fun _ => 0))), (b2, .inr (0, [.null]))] := hD
  refine lv_dup hx hb d_K_init_50 rfl ?_
  refine rk_backv (wc := [(b2, .inr (0, [.null]))]) (wr := [(h0, .inr (1, [.ref a1, .ref a2, .ref a3, .int (nI 0), .ref b1, .null, .null, .null, .null])), (a1, .inl (cI, 1024, .inl (fun _ => 0))), (a2, .inl (cI, 60, .inl (fun _ => 0))), (a3, .inl (cI, 1024, .inl (fun _ => 0))), (b1, .inr (0, [.ref d1])), (d1, .inl (cI, 32, .inl (fun _ => 0)))]) (va_runI (As := []) (rest := [.ref b2, .ref h0]) ⟨hx, hb, hml, hown, htw⟩ (c_P_init l dC dI cI cZ cJ _ b2) (rk_cwI 0 htw gc_K_init_51 rfl (by decide +kernel) ⟨(Nat.le_of_ble_eq_true rfl), (Nat.le_of_ble_eq_true rfl)⟩) (⟨rk_blind, rk_give (rk_psub (isC := [6]) hP rfl) hK (hD.sub [6] rfl rfl)⟩) rfl rfl hl.1 rfl (lv_room (Nat.le_of_ble_eq_true rfl)) d_K_init_51 ⟨(Nat.le_of_ble_eq_true rfl), (Nat.le_of_ble_eq_true rfl)⟩) hP hD hS hA [6] [0, 1, 2, 3, 4, 5] rfl rfl rfl (by decide) (fun d2 H locs hp9 hP hD hS => ?_)
  have hP : va_P (dC, dI) classes [(h0, .inr (1, [.ref a1, .ref a2, .ref a3, .int (nI 0), .ref b1, .null, .null, .null, .null])), (a1, .inl (cI, 1024, .inl (fun _ => 0))), (a2, .inl (cI, 60, .inl (fun _ => 0))), (a3, .inl (cI, 1024, .inl (fun _ => 0))), (b1, .inr (0, [.ref d1])), (d1, .inl (cI, 32, .inl (fun _ => 0))), (b2, .inr (0, [.ref d2])), (d2, .inl (cI, 32, .inl (fun _ => 0)))] H := hP
  have hD : va_D _ [(h0, .inr (1, [.ref a1, .ref a2, .ref a3, .int (nI 0), .ref b1, .null, .null, .null, .null])), (a1, .inl (cI, 1024, .inl (fun _ => 0))), (a2, .inl (cI, 60, .inl (fun _ => 0))), (a3, .inl (cI, 1024, .inl (fun _ => 0))), (b1, .inr (0, [.ref d1])), (d1, .inl (cI, 32, .inl (fun _ => 0))), (b2, .inr (0, [.ref d2])), (d2, .inl (cI, 32, .inl (fun _ => 0)))] := hD
  refine va_putF (D := (dC, dI)) (ci := 1) (v := .ref b2) (ty := .object "ReachKeeper$PairSet") (C := R_K) (T := F_K) (N := 9) hx hb htw u_K t_K t_K_ok n_K hown hK hP hD hS 0 rfl rfl 5 (by decide) (htw _ l_K_30) (fun _ h9 => h9) rfl hin rfl (by decide +kernel) rfl rfl (Nat.le_of_ble_eq_true rfl) d_K_init_54 (fun H locs hP hD hS => ?_)
  have hP : va_P (dC, dI) classes [(h0, .inr (1, [.ref a1, .ref a2, .ref a3, .int (nI 0), .ref b1, .ref b2, .null, .null, .null])), (a1, .inl (cI, 1024, .inl (fun _ => 0))), (a2, .inl (cI, 60, .inl (fun _ => 0))), (a3, .inl (cI, 1024, .inl (fun _ => 0))), (b1, .inr (0, [.ref d1])), (d1, .inl (cI, 32, .inl (fun _ => 0))), (b2, .inr (0, [.ref d2])), (d2, .inl (cI, 32, .inl (fun _ => 0)))] H := hP
  have hD : va_D _ [(h0, .inr (1, [.ref a1, .ref a2, .ref a3, .int (nI 0), .ref b1, .ref b2, .null, .null, .null])), (a1, .inl (cI, 1024, .inl (fun _ => 0))), (a2, .inl (cI, 60, .inl (fun _ => 0))), (a3, .inl (cI, 1024, .inl (fun _ => 0))), (b1, .inr (0, [.ref d1])), (d1, .inl (cI, 32, .inl (fun _ => 0))), (b2, .inr (0, [.ref d2])), (d2, .inl (cI, 32, .inl (fun _ => 0)))] := hD
  refine lv_aload_n hx hb d_K_init_57 rfl (lv_at hl 0 rfl) ?_
  refine va_new (ci := 0) (fs := [.null]) (C := R_P) (T := F_P) (N := 1) hx hb htw u_P t_P t_P_ok hown (htw _ cl_K_23) (htw _ it_P) (htw _ in_P) hK hP hD hS hA rfl (fun j hj => by rcases (show j = 0 by omega) with rfl <;> rfl) (Nat.le_of_ble_eq_true rfl) (Nat.le_of_ble_eq_true rfl) d_K_init_58 (fun b3 H hP hD hS => ?_)
  have hP : va_P (dC, dI) classes [(h0, .inr (1, [.ref a1, .ref a2, .ref a3, .int (nI 0), .ref b1, .ref b2, .null, .null, .null])), (a1, .inl (cI, 1024, .inl (fun _ => 0))), (a2, .inl (cI, 60, .inl (fun _ => 0))), (a3, .inl (cI, 1024, .inl (fun _ => 0))), (b1, .inr (0, [.ref d1])), (d1, .inl (cI, 32, .inl (fun _ => 0))), (b2, .inr (0, [.ref d2])), (d2, .inl (cI, 32, .inl (fun _ => 0))), (b3, .inr (0, [.null]))] H := hP
  have hD : va_D _ [(h0, .inr (1, [.ref a1, .ref a2, .ref a3, .int (nI 0), .ref b1, .ref b2, .null, .null, .null])), (a1, .inl (cI, 1024, .inl (fun _ => 0))), (a2, .inl (cI, 60, .inl (fun _ => 0))), (a3, .inl (cI, 1024, .inl (fun _ => 0))), (b1, .inr (0, [.ref d1])), (d1, .inl (cI, 32, .inl (fun _ => 0))), (b2, .inr (0, [.ref d2])), (d2, .inl (cI, 32, .inl (fun _ => 0))), (b3, .inr (0, [.null]))] := hD
  refine lv_dup hx hb d_K_init_61 rfl ?_
  refine rk_backv (wc := [(b3, .inr (0, [.null]))]) (wr := [(h0, .inr (1, [.ref a1, .ref a2, .ref a3, .int (nI 0), .ref b1, .ref b2, .null, .null, .null])), (a1, .inl (cI, 1024, .inl (fun _ => 0))), (a2, .inl (cI, 60, .inl (fun _ => 0))), (a3, .inl (cI, 1024, .inl (fun _ => 0))), (b1, .inr (0, [.ref d1])), (d1, .inl (cI, 32, .inl (fun _ => 0))), (b2, .inr (0, [.ref d2])), (d2, .inl (cI, 32, .inl (fun _ => 0)))]) (va_runI (As := []) (rest := [.ref b3, .ref h0]) ⟨hx, hb, hml, hown, htw⟩ (c_P_init l dC dI cI cZ cJ _ b3) (rk_cwI 0 htw gc_K_init_62 rfl (by decide +kernel) ⟨(Nat.le_of_ble_eq_true rfl), (Nat.le_of_ble_eq_true rfl)⟩) (⟨rk_blind, rk_give (rk_psub (isC := [8]) hP rfl) hK (hD.sub [8] rfl rfl)⟩) rfl rfl hl.1 rfl (lv_room (Nat.le_of_ble_eq_true rfl)) d_K_init_62 ⟨(Nat.le_of_ble_eq_true rfl), (Nat.le_of_ble_eq_true rfl)⟩) hP hD hS hA [8] [0, 1, 2, 3, 4, 5, 6, 7] rfl rfl rfl (by decide) (fun d3 H locs hp9 hP hD hS => ?_)
  have hP : va_P (dC, dI) classes [(h0, .inr (1, [.ref a1, .ref a2, .ref a3, .int (nI 0), .ref b1, .ref b2, .null, .null, .null])), (a1, .inl (cI, 1024, .inl (fun _ => 0))), (a2, .inl (cI, 60, .inl (fun _ => 0))), (a3, .inl (cI, 1024, .inl (fun _ => 0))), (b1, .inr (0, [.ref d1])), (d1, .inl (cI, 32, .inl (fun _ => 0))), (b2, .inr (0, [.ref d2])), (d2, .inl (cI, 32, .inl (fun _ => 0))), (b3, .inr (0, [.ref d3])), (d3, .inl (cI, 32, .inl (fun _ => 0)))] H := hP
  have hD : va_D _ [(h0, .inr (1, [.ref a1, .ref a2, .ref a3, .int (nI 0), .ref b1, .ref b2, .null, .null, .null])), (a1, .inl (cI, 1024, .inl (fun _ => 0))), (a2, .inl (cI, 60, .inl (fun _ => 0))), (a3, .inl (cI, 1024, .inl (fun _ => 0))), (b1, .inr (0, [.ref d1])), (d1, .inl (cI, 32, .inl (fun _ => 0))), (b2, .inr (0, [.ref d2])), (d2, .inl (cI, 32, .inl (fun _ => 0))), (b3, .inr (0, [.ref d3])), (d3, .inl (cI, 32, .inl (fun _ => 0)))] := hD
  refine va_putF (D := (dC, dI)) (ci := 1) (v := .ref b3) (ty := .object "ReachKeeper$PairSet") (C := R_K) (T := F_K) (N := 9) hx hb htw u_K t_K t_K_ok n_K hown hK hP hD hS 0 rfl rfl 6 (by decide) (htw _ l_K_33) (fun _ h9 => h9) rfl hin rfl (by decide +kernel) rfl rfl (Nat.le_of_ble_eq_true rfl) d_K_init_65 (fun H locs hP hD hS => ?_)
  have hP : va_P (dC, dI) classes [(h0, .inr (1, [.ref a1, .ref a2, .ref a3, .int (nI 0), .ref b1, .ref b2, .ref b3, .null, .null])), (a1, .inl (cI, 1024, .inl (fun _ => 0))), (a2, .inl (cI, 60, .inl (fun _ => 0))), (a3, .inl (cI, 1024, .inl (fun _ => 0))), (b1, .inr (0, [.ref d1])), (d1, .inl (cI, 32, .inl (fun _ => 0))), (b2, .inr (0, [.ref d2])), (d2, .inl (cI, 32, .inl (fun _ => 0))), (b3, .inr (0, [.ref d3])), (d3, .inl (cI, 32, .inl (fun _ => 0)))] H := hP
  have hD : va_D _ [(h0, .inr (1, [.ref a1, .ref a2, .ref a3, .int (nI 0), .ref b1, .ref b2, .ref b3, .null, .null])), (a1, .inl (cI, 1024, .inl (fun _ => 0))), (a2, .inl (cI, 60, .inl (fun _ => 0))), (a3, .inl (cI, 1024, .inl (fun _ => 0))), (b1, .inr (0, [.ref d1])), (d1, .inl (cI, 32, .inl (fun _ => 0))), (b2, .inr (0, [.ref d2])), (d2, .inl (cI, 32, .inl (fun _ => 0))), (b3, .inr (0, [.ref d3])), (d3, .inl (cI, 32, .inl (fun _ => 0)))] := hD
  refine lv_aload_n hx hb d_K_init_68 rfl (lv_at hl 0 rfl) ?_
  refine va_new (ci := 0) (fs := [.null]) (C := R_P) (T := F_P) (N := 1) hx hb htw u_P t_P t_P_ok hown (htw _ cl_K_23) (htw _ it_P) (htw _ in_P) hK hP hD hS hA rfl (fun j hj => by rcases (show j = 0 by omega) with rfl <;> rfl) (Nat.le_of_ble_eq_true rfl) (Nat.le_of_ble_eq_true rfl) d_K_init_69 (fun b4 H hP hD hS => ?_)
  have hP : va_P (dC, dI) classes [(h0, .inr (1, [.ref a1, .ref a2, .ref a3, .int (nI 0), .ref b1, .ref b2, .ref b3, .null, .null])), (a1, .inl (cI, 1024, .inl (fun _ => 0))), (a2, .inl (cI, 60, .inl (fun _ => 0))), (a3, .inl (cI, 1024, .inl (fun _ => 0))), (b1, .inr (0, [.ref d1])), (d1, .inl (cI, 32, .inl (fun _ => 0))), (b2, .inr (0, [.ref d2])), (d2, .inl (cI, 32, .inl (fun _ => 0))), (b3, .inr (0, [.ref d3])), (d3, .inl (cI, 32, .inl (fun _ => 0))), (b4, .inr (0, [.null]))] H := hP
  have hD : va_D _ [(h0, .inr (1, [.ref a1, .ref a2, .ref a3, .int (nI 0), .ref b1, .ref b2, .ref b3, .null, .null])), (a1, .inl (cI, 1024, .inl (fun _ => 0))), (a2, .inl (cI, 60, .inl (fun _ => 0))), (a3, .inl (cI, 1024, .inl (fun _ => 0))), (b1, .inr (0, [.ref d1])), (d1, .inl (cI, 32, .inl (fun _ => 0))), (b2, .inr (0, [.ref d2])), (d2, .inl (cI, 32, .inl (fun _ => 0))), (b3, .inr (0, [.ref d3])), (d3, .inl (cI, 32, .inl (fun _ => 0))), (b4, .inr (0, [.null]))] := hD
  refine lv_dup hx hb d_K_init_72 rfl ?_
  refine rk_backv (wc := [(b4, .inr (0, [.null]))]) (wr := [(h0, .inr (1, [.ref a1, .ref a2, .ref a3, .int (nI 0), .ref b1, .ref b2, .ref b3, .null, .null])), (a1, .inl (cI, 1024, .inl (fun _ => 0))), (a2, .inl (cI, 60, .inl (fun _ => 0))), (a3, .inl (cI, 1024, .inl (fun _ => 0))), (b1, .inr (0, [.ref d1])), (d1, .inl (cI, 32, .inl (fun _ => 0))), (b2, .inr (0, [.ref d2])), (d2, .inl (cI, 32, .inl (fun _ => 0))), (b3, .inr (0, [.ref d3])), (d3, .inl (cI, 32, .inl (fun _ => 0)))]) (va_runI (As := []) (rest := [.ref b4, .ref h0]) ⟨hx, hb, hml, hown, htw⟩ (c_P_init l dC dI cI cZ cJ _ b4) (rk_cwI 0 htw gc_K_init_73 rfl (by decide +kernel) ⟨(Nat.le_of_ble_eq_true rfl), (Nat.le_of_ble_eq_true rfl)⟩) (⟨rk_blind, rk_give (rk_psub (isC := [10]) hP rfl) hK (hD.sub [10] rfl rfl)⟩) rfl rfl hl.1 rfl (lv_room (Nat.le_of_ble_eq_true rfl)) d_K_init_73 ⟨(Nat.le_of_ble_eq_true rfl), (Nat.le_of_ble_eq_true rfl)⟩) hP hD hS hA [10] [0, 1, 2, 3, 4, 5, 6, 7, 8, 9] rfl rfl rfl (by decide) (fun d4 H locs hp9 hP hD hS => ?_)
  have hP : va_P (dC, dI) classes [(h0, .inr (1, [.ref a1, .ref a2, .ref a3, .int (nI 0), .ref b1, .ref b2, .ref b3, .null, .null])), (a1, .inl (cI, 1024, .inl (fun _ => 0))), (a2, .inl (cI, 60, .inl (fun _ => 0))), (a3, .inl (cI, 1024, .inl (fun _ => 0))), (b1, .inr (0, [.ref d1])), (d1, .inl (cI, 32, .inl (fun _ => 0))), (b2, .inr (0, [.ref d2])), (d2, .inl (cI, 32, .inl (fun _ => 0))), (b3, .inr (0, [.ref d3])), (d3, .inl (cI, 32, .inl (fun _ => 0))), (b4, .inr (0, [.ref d4])), (d4, .inl (cI, 32, .inl (fun _ => 0)))] H := hP
  have hD : va_D _ [(h0, .inr (1, [.ref a1, .ref a2, .ref a3, .int (nI 0), .ref b1, .ref b2, .ref b3, .null, .null])), (a1, .inl (cI, 1024, .inl (fun _ => 0))), (a2, .inl (cI, 60, .inl (fun _ => 0))), (a3, .inl (cI, 1024, .inl (fun _ => 0))), (b1, .inr (0, [.ref d1])), (d1, .inl (cI, 32, .inl (fun _ => 0))), (b2, .inr (0, [.ref d2])), (d2, .inl (cI, 32, .inl (fun _ => 0))), (b3, .inr (0, [.ref d3])), (d3, .inl (cI, 32, .inl (fun _ => 0))), (b4, .inr (0, [.ref d4])), (d4, .inl (cI, 32, .inl (fun _ => 0)))] := hD
  refine va_putF (D := (dC, dI)) (ci := 1) (v := .ref b4) (ty := .object "ReachKeeper$PairSet") (C := R_K) (T := F_K) (N := 9) hx hb htw u_K t_K t_K_ok n_K hown hK hP hD hS 0 rfl rfl 7 (by decide) (htw _ l_K_36) (fun _ h9 => h9) rfl hin rfl (by decide +kernel) rfl rfl (Nat.le_of_ble_eq_true rfl) d_K_init_76 (fun H locs hP hD hS => ?_)
  have hP : va_P (dC, dI) classes [(h0, .inr (1, [.ref a1, .ref a2, .ref a3, .int (nI 0), .ref b1, .ref b2, .ref b3, .ref b4, .null])), (a1, .inl (cI, 1024, .inl (fun _ => 0))), (a2, .inl (cI, 60, .inl (fun _ => 0))), (a3, .inl (cI, 1024, .inl (fun _ => 0))), (b1, .inr (0, [.ref d1])), (d1, .inl (cI, 32, .inl (fun _ => 0))), (b2, .inr (0, [.ref d2])), (d2, .inl (cI, 32, .inl (fun _ => 0))), (b3, .inr (0, [.ref d3])), (d3, .inl (cI, 32, .inl (fun _ => 0))), (b4, .inr (0, [.ref d4])), (d4, .inl (cI, 32, .inl (fun _ => 0)))] H := hP
  have hD : va_D _ [(h0, .inr (1, [.ref a1, .ref a2, .ref a3, .int (nI 0), .ref b1, .ref b2, .ref b3, .ref b4, .null])), (a1, .inl (cI, 1024, .inl (fun _ => 0))), (a2, .inl (cI, 60, .inl (fun _ => 0))), (a3, .inl (cI, 1024, .inl (fun _ => 0))), (b1, .inr (0, [.ref d1])), (d1, .inl (cI, 32, .inl (fun _ => 0))), (b2, .inr (0, [.ref d2])), (d2, .inl (cI, 32, .inl (fun _ => 0))), (b3, .inr (0, [.ref d3])), (d3, .inl (cI, 32, .inl (fun _ => 0))), (b4, .inr (0, [.ref d4])), (d4, .inl (cI, 32, .inl (fun _ => 0)))] := hD
  refine lv_aload_n hx hb d_K_init_79 rfl (lv_at hl 0 rfl) ?_
  refine va_new (ci := 0) (fs := [.null]) (C := R_P) (T := F_P) (N := 1) hx hb htw u_P t_P t_P_ok hown (htw _ cl_K_23) (htw _ it_P) (htw _ in_P) hK hP hD hS hA rfl (fun j hj => by rcases (show j = 0 by omega) with rfl <;> rfl) (Nat.le_of_ble_eq_true rfl) (Nat.le_of_ble_eq_true rfl) d_K_init_80 (fun b5 H hP hD hS => ?_)
  have hP : va_P (dC, dI) classes [(h0, .inr (1, [.ref a1, .ref a2, .ref a3, .int (nI 0), .ref b1, .ref b2, .ref b3, .ref b4, .null])), (a1, .inl (cI, 1024, .inl (fun _ => 0))), (a2, .inl (cI, 60, .inl (fun _ => 0))), (a3, .inl (cI, 1024, .inl (fun _ => 0))), (b1, .inr (0, [.ref d1])), (d1, .inl (cI, 32, .inl (fun _ => 0))), (b2, .inr (0, [.ref d2])), (d2, .inl (cI, 32, .inl (fun _ => 0))), (b3, .inr (0, [.ref d3])), (d3, .inl (cI, 32, .inl (fun _ => 0))), (b4, .inr (0, [.ref d4])), (d4, .inl (cI, 32, .inl (fun _ => 0))), (b5, .inr (0, [.null]))] H := hP
  have hD : va_D _ [(h0, .inr (1, [.ref a1, .ref a2, .ref a3, .int (nI 0), .ref b1, .ref b2, .ref b3, .ref b4, .null])), (a1, .inl (cI, 1024, .inl (fun _ => 0))), (a2, .inl (cI, 60, .inl (fun _ => 0))), (a3, .inl (cI, 1024, .inl (fun _ => 0))), (b1, .inr (0, [.ref d1])), (d1, .inl (cI, 32, .inl (fun _ => 0))), (b2, .inr (0, [.ref d2])), (d2, .inl (cI, 32, .inl (fun _ => 0))), (b3, .inr (0, [.ref d3])), (d3, .inl (cI, 32, .inl (fun _ => 0))), (b4, .inr (0, [.ref d4])), (d4, .inl (cI, 32, .inl (fun _ => 0))), (b5, .inr (0, [.null]))] := hD
  refine lv_dup hx hb d_K_init_83 rfl ?_
  refine rk_backv (wc := [(b5, .inr (0, [.null]))]) (wr := [(h0, .inr (1, [.ref a1, .ref a2, .ref a3, .int (nI 0), .ref b1, .ref b2, .ref b3, .ref b4, .null])), (a1, .inl (cI, 1024, .inl (fun _ => 0))), (a2, .inl (cI, 60, .inl (fun _ => 0))), (a3, .inl (cI, 1024, .inl (fun _ => 0))), (b1, .inr (0, [.ref d1])), (d1, .inl (cI, 32, .inl (fun _ => 0))), (b2, .inr (0, [.ref d2])), (d2, .inl (cI, 32, .inl (fun _ => 0))), (b3, .inr (0, [.ref d3])), (d3, .inl (cI, 32, .inl (fun _ => 0))), (b4, .inr (0, [.ref d4])), (d4, .inl (cI, 32, .inl (fun _ => 0)))]) (va_runI (As := []) (rest := [.ref b5, .ref h0]) ⟨hx, hb, hml, hown, htw⟩ (c_P_init l dC dI cI cZ cJ _ b5) (rk_cwI 0 htw gc_K_init_84 rfl (by decide +kernel) ⟨(Nat.le_of_ble_eq_true rfl), (Nat.le_of_ble_eq_true rfl)⟩) (⟨rk_blind, rk_give (rk_psub (isC := [12]) hP rfl) hK (hD.sub [12] rfl rfl)⟩) rfl rfl hl.1 rfl (lv_room (Nat.le_of_ble_eq_true rfl)) d_K_init_84 ⟨(Nat.le_of_ble_eq_true rfl), (Nat.le_of_ble_eq_true rfl)⟩) hP hD hS hA [12] [0, 1, 2, 3, 4, 5, 6, 7, 8, 9, 10, 11] rfl rfl rfl (by decide) (fun d5 H locs hp9 hP hD hS => ?_)
  have hP : va_P (dC, dI) classes [(h0, .inr (1, [.ref a1, .ref a2, .ref a3, .int (nI 0), .ref b1, .ref b2, .ref b3, .ref b4, .null])), (a1, .inl (cI, 1024, .inl (fun _ => 0))), (a2, .inl (cI, 60, .inl (fun _ => 0))), (a3, .inl (cI, 1024, .inl (fun _ => 0))), (b1, .inr (0, [.ref d1])), (d1, .inl (cI, 32, .inl (fun _ => 0))), (b2, .inr (0, [.ref d2])), (d2, .inl (cI, 32, .inl (fun _ => 0))), (b3, .inr (0, [.ref d3])), (d3, .inl (cI, 32, .inl (fun _ => 0))), (b4, .inr (0, [.ref d4])), (d4, .inl (cI, 32, .inl (fun _ => 0))), (b5, .inr (0, [.ref d5])), (d5, .inl (cI, 32, .inl (fun _ => 0)))] H := hP
  have hD : va_D _ [(h0, .inr (1, [.ref a1, .ref a2, .ref a3, .int (nI 0), .ref b1, .ref b2, .ref b3, .ref b4, .null])), (a1, .inl (cI, 1024, .inl (fun _ => 0))), (a2, .inl (cI, 60, .inl (fun _ => 0))), (a3, .inl (cI, 1024, .inl (fun _ => 0))), (b1, .inr (0, [.ref d1])), (d1, .inl (cI, 32, .inl (fun _ => 0))), (b2, .inr (0, [.ref d2])), (d2, .inl (cI, 32, .inl (fun _ => 0))), (b3, .inr (0, [.ref d3])), (d3, .inl (cI, 32, .inl (fun _ => 0))), (b4, .inr (0, [.ref d4])), (d4, .inl (cI, 32, .inl (fun _ => 0))), (b5, .inr (0, [.ref d5])), (d5, .inl (cI, 32, .inl (fun _ => 0)))] := hD
  refine va_putF (D := (dC, dI)) (ci := 1) (v := .ref b5) (ty := .object "ReachKeeper$PairSet") (C := R_K) (T := F_K) (N := 9) hx hb htw u_K t_K t_K_ok n_K hown hK hP hD hS 0 rfl rfl 8 (by decide) (htw _ l_K_39) (fun _ h9 => h9) rfl hin rfl (by decide +kernel) rfl rfl (Nat.le_of_ble_eq_true rfl) d_K_init_87 (fun H locs hP hD hS => ?_)
  have hP : va_P (dC, dI) classes [(h0, .inr (1, [.ref a1, .ref a2, .ref a3, .int (nI 0), .ref b1, .ref b2, .ref b3, .ref b4, .ref b5])), (a1, .inl (cI, 1024, .inl (fun _ => 0))), (a2, .inl (cI, 60, .inl (fun _ => 0))), (a3, .inl (cI, 1024, .inl (fun _ => 0))), (b1, .inr (0, [.ref d1])), (d1, .inl (cI, 32, .inl (fun _ => 0))), (b2, .inr (0, [.ref d2])), (d2, .inl (cI, 32, .inl (fun _ => 0))), (b3, .inr (0, [.ref d3])), (d3, .inl (cI, 32, .inl (fun _ => 0))), (b4, .inr (0, [.ref d4])), (d4, .inl (cI, 32, .inl (fun _ => 0))), (b5, .inr (0, [.ref d5])), (d5, .inl (cI, 32, .inl (fun _ => 0)))] H := hP
  have hD : va_D _ [(h0, .inr (1, [.ref a1, .ref a2, .ref a3, .int (nI 0), .ref b1, .ref b2, .ref b3, .ref b4, .ref b5])), (a1, .inl (cI, 1024, .inl (fun _ => 0))), (a2, .inl (cI, 60, .inl (fun _ => 0))), (a3, .inl (cI, 1024, .inl (fun _ => 0))), (b1, .inr (0, [.ref d1])), (d1, .inl (cI, 32, .inl (fun _ => 0))), (b2, .inr (0, [.ref d2])), (d2, .inl (cI, 32, .inl (fun _ => 0))), (b3, .inr (0, [.ref d3])), (d3, .inl (cI, 32, .inl (fun _ => 0))), (b4, .inr (0, [.ref d4])), (d4, .inl (cI, 32, .inl (fun _ => 0))), (b5, .inr (0, [.ref d5])), (d5, .inl (cI, 32, .inl (fun _ => 0)))] := hD
  refine W.widen (k := 13) (n := 2273) (by omega) (by omega) ?_
  exact rk_vret ((a1, a2, a3, b1, b2, b3, b4, b5, d1, d2, d3, d4, d5)) hx hb hr hlocks (trivial) rfl hP hK hD hS d_K_init_90
set_option maxHeartbeats 4000000 in
set_option maxRecDepth 100000 in
theorem c_M_init (l : Launch) (dC : Nat → ClassId) (dI : Nat → Nat → Nat) (cI cZ cJ : ClassId) (sz : Nat) (h0 : Nat) : Met l y_M_init (.code y_M_init b_M_init 1 none :: WT) { frames := 1, cells := 7, slots := 4248, locals := 12 } (va_Pc [.ref h0] (rk_pre (dC, dI) [(cI, .int), (cZ, .boolean), (cJ, .long)] sz [(h0, .inr (2, [.int 0, .int 0, .null, .null, .null, .null, .null, .null, .null]))])) (va_Qv (fun (u : Nat × Nat × Nat × Nat × Nat × Nat × Nat) => True) (fun u s9 => rk_at (dC, dI) [(cI, .int), (cZ, .boolean), (cJ, .long)] (va_A [(h0, .inr (2, [.int 0, .int 0, .null, .null, .null, .null, .null, .null, .null]))] sz) [(h0, .inr (2, [.int 0, .int 0, .ref u.1, .ref u.2.1, .ref u.2.2.1, .ref u.2.2.2.1, .ref u.2.2.2.2.1, .ref u.2.2.2.2.2.1, .ref u.2.2.2.2.2.2])), (u.1, .inl (cI, 1024, .inl (fun _ => 0))), (u.2.1, .inl (cI, 1024, .inl (fun _ => 0))), (u.2.2.1, .inl (cI, 60, .inl (fun _ => 0))), (u.2.2.2.1, .inl (cI, 60, .inl (fun _ => 0))), (u.2.2.2.2.1, .inl (cI, 32, .inl (fun _ => 0))), (u.2.2.2.2.2.1, .inl (cZ, 1024, .inl (fun p => zI ((fun _ => false) p)))), (u.2.2.2.2.2.2, .inl (cZ, 1024, .inl (fun p => zI ((fun _ => false) p))))] s9) (va_A [(h0, .inr (2, [.int 0, .int 0, .null, .null, .null, .null, .null, .null, .null]))] sz)) 7 4248 (va_A [(h0, .inr (2, [.int 0, .int 0, .null, .null, .null, .null, .null, .null, .null]))] sz) := by
  refine rk_body (by decide) (Nat.le_of_ble_eq_true rfl) ?_
  intro p e s m below meth c hx hb hml hr htw hown hlocks hin hsz hP hK hD hA hS ls hl
  have hown : s.vm.findClass R_M = some m.cls := hown
  have hl : lv_has ls 1 [(0, .ref h0)] := hl
  have hin : meth.name = "<init>" := hin
  refine lv_aload_n hx hb d_M_init_0 rfl (lv_at hl 0 rfl) ?_
  refine W.objInit hx hb hown (htw _ ml_M_1) (htw _ im_objectInit) (htw _ co_objectInit) rfl (by rw [hml]; exact hl.1) rfl d_M_init_1 (Nat.le_of_ble_eq_true rfl) (Nat.le_of_ble_eq_true rfl) ?_
  refine W.eq (g2 := F0 m 4 ls []) rfl ?_
  refine lv_aload_n hx hb d_M_init_4 rfl (lv_at hl 0 rfl) ?_
  refine lv_sipush (v := nI 1024) hx hb d_M_init_5 (by decide) ?_
  refine va_newa (atype := .int) (ty := .int) (N' := 1024) (a0 := (1024, .inl (fun _ => 0))) hx hb (htw _ ac_int) rfl hK hP hD hS hA (fun _ => rfl) (by decide) (by decide) (by decide) (Nat.le_of_ble_eq_true rfl) (Nat.le_of_ble_eq_true rfl) d_M_init_8 (fun a1 cA H hK9 hP hD hS => ?_)
  have ec := rk_eqI hK hK9
  subst ec
  have hP : va_P (dC, dI) classes [(h0, .inr (2, [.int 0, .int 0, .null, .null, .null, .null, .null, .null, .null])), (a1, .inl (cI, 1024, .inl (fun _ => 0)))] H := hP
  have hD : va_D _ [(h0, .inr (2, [.int 0, .int 0, .null, .null, .null, .null, .null, .null, .null])), (a1, .inl (cI, 1024, .inl (fun _ => 0)))] := hD
  refine va_putF (D := (dC, dI)) (ci := 2) (v := .ref a1) (ty := .array .int) (C := R_M) (T := F_M) (N := 9) hx hb htw u_M t_M t_M_ok n_M hown hK hP hD hS 0 rfl rfl 2 (by decide) (htw _ l_M_9) (fun _ h9 => h9) rfl hin rfl (by decide +kernel) rfl rfl (Nat.le_of_ble_eq_true rfl) d_M_init_10 (fun H locs hP hD hS => ?_)
  have hP : va_P (dC, dI) classes [(h0, .inr (2, [.int 0, .int 0, .ref a1, .null, .null, .null, .null, .null, .null])), (a1, .inl (cI, 1024, .inl (fun _ => 0)))] H := hP
  have hD : va_D _ [(h0, .inr (2, [.int 0, .int 0, .ref a1, .null, .null, .null, .null, .null, .null])), (a1, .inl (cI, 1024, .inl (fun _ => 0)))] := hD
  refine lv_aload_n hx hb d_M_init_13 rfl (lv_at hl 0 rfl) ?_
  refine lv_sipush (v := nI 1024) hx hb d_M_init_14 (by decide) ?_
  refine va_newa (atype := .int) (ty := .int) (N' := 1024) (a0 := (1024, .inl (fun _ => 0))) hx hb (htw _ ac_int) rfl hK hP hD hS hA (fun _ => rfl) (by decide) (by decide) (by decide) (Nat.le_of_ble_eq_true rfl) (Nat.le_of_ble_eq_true rfl) d_M_init_17 (fun a2 cA H hK9 hP hD hS => ?_)
  have ec := rk_eqI hK hK9
  subst ec
  have hP : va_P (dC, dI) classes [(h0, .inr (2, [.int 0, .int 0, .ref a1, .null, .null, .null, .null, .null, .null])), (a1, .inl (cI, 1024, .inl (fun _ => 0))), (a2, .inl (cI, 1024, .inl (fun _ => 0)))] H := hP
  have hD : va_D _ [(h0, .inr (2, [.int 0, .int 0, .ref a1, .null, .null, .null, .null, .null, .null])), (a1, .inl (cI, 1024, .inl (fun _ => 0))), (a2, .inl (cI, 1024, .inl (fun _ => 0)))] := hD
  refine va_putF (D := (dC, dI)) (ci := 2) (v := .ref a2) (ty := .array .int) (C := R_M) (T := F_M) (N := 9) hx hb htw u_M t_M t_M_ok n_M hown hK hP hD hS 0 rfl rfl 3 (by decide) (htw _ l_M_13) (fun _ h9 => h9) rfl hin rfl (by decide +kernel) rfl rfl (Nat.le_of_ble_eq_true rfl) d_M_init_19 (fun H locs hP hD hS => ?_)
  have hP : va_P (dC, dI) classes [(h0, .inr (2, [.int 0, .int 0, .ref a1, .ref a2, .null, .null, .null, .null, .null])), (a1, .inl (cI, 1024, .inl (fun _ => 0))), (a2, .inl (cI, 1024, .inl (fun _ => 0)))] H := hP
  have hD : va_D _ [(h0, .inr (2, [.int 0, .int 0, .ref a1, .ref a2, .null, .null, .null, .null, .null])), (a1, .inl (cI, 1024, .inl (fun _ => 0))), (a2, .inl (cI, 1024, .inl (fun _ => 0)))] := hD
  refine lv_aload_n hx hb d_M_init_22 rfl (lv_at hl 0 rfl) ?_
  refine lv_bipush (v := nI 60) hx hb d_M_init_23 (by decide) ?_
  refine va_newa (atype := .int) (ty := .int) (N' := 60) (a0 := (60, .inl (fun _ => 0))) hx hb (htw _ ac_int) rfl hK hP hD hS hA (fun _ => rfl) (by decide) (by decide) (by decide) (Nat.le_of_ble_eq_true rfl) (Nat.le_of_ble_eq_true rfl) d_M_init_25 (fun a3 cA H hK9 hP hD hS => ?_)
  have ec := rk_eqI hK hK9
  subst ec
  have hP : va_P (dC, dI) classes [(h0, .inr (2, [.int 0, .int 0, .ref a1, .ref a2, .null, .null, .null, .null, .null])), (a1, .inl (cI, 1024, .inl (fun _ => 0))), (a2, .inl (cI, 1024, .inl (fun _ => 0))), (a3, .inl (cI, 60, .inl (fun _ => 0)))] H := hP
  have hD : va_D _ [(h0, .inr (2, [.int 0, .int 0, .ref a1, .ref a2, .null, .null, .null, .null, .null])), (a1, .inl (cI, 1024, .inl (fun _ => 0))), (a2, .inl (cI, 1024, .inl (fun _ => 0))), (a3, .inl (cI, 60, .inl (fun _ => 0)))] := hD
  refine va_putF (D := (dC, dI)) (ci := 2) (v := .ref a3) (ty := .array .int) (C := R_M) (T := F_M) (N := 9) hx hb htw u_M t_M t_M_ok n_M hown hK hP hD hS 0 rfl rfl 4 (by decide) (htw _ l_M_16) (fun _ h9 => h9) rfl hin rfl (by decide +kernel) rfl rfl (Nat.le_of_ble_eq_true rfl) d_M_init_27 (fun H locs hP hD hS => ?_)
  have hP : va_P (dC, dI) classes [(h0, .inr (2, [.int 0, .int 0, .ref a1, .ref a2, .ref a3, .null, .null, .null, .null])), (a1, .inl (cI, 1024, .inl (fun _ => 0))), (a2, .inl (cI, 1024, .inl (fun _ => 0))), (a3, .inl (cI, 60, .inl (fun _ => 0)))] H := hP
  have hD : va_D _ [(h0, .inr (2, [.int 0, .int 0, .ref a1, .ref a2, .ref a3, .null, .null, .null, .null])), (a1, .inl (cI, 1024, .inl (fun _ => 0))), (a2, .inl (cI, 1024, .inl (fun _ => 0))), (a3, .inl (cI, 60, .inl (fun _ => 0)))] := hD
  refine lv_aload_n hx hb d_M_init_30 rfl (lv_at hl 0 rfl) ?_
  refine lv_bipush (v := nI 60) hx hb d_M_init_31 (by decide) ?_
  refine va_newa (atype := .int) (ty := .int) (N' := 60) (a0 := (60, .inl (fun _ => 0))) hx hb (htw _ ac_int) rfl hK hP hD hS hA (fun _ => rfl) (by decide) (by decide) (by decide) (Nat.le_of_ble_eq_true rfl) (Nat.le_of_ble_eq_true rfl) d_M_init_33 (fun a4 cA H hK9 hP hD hS => ?_)
  have ec := rk_eqI hK hK9
  subst ec
  have hP : va_P (dC, dI) classes [(h0, .inr (2, [.int 0, .int 0, .ref a1, .ref a2, .ref a3, .null, .null, .null, .null])), (a1, .inl (cI, 1024, .inl (fun _ => 0))), (a2, .inl (cI, 1024, .inl (fun _ => 0))), (a3, .inl (cI, 60, .inl (fun _ => 0))), (a4, .inl (cI, 60, .inl (fun _ => 0)))] H := hP
  have hD : va_D _ [(h0, .inr (2, [.int 0, .int 0, .ref a1, .ref a2, .ref a3, .null, .null, .null, .null])), (a1, .inl (cI, 1024, .inl (fun _ => 0))), (a2, .inl (cI, 1024, .inl (fun _ => 0))), (a3, .inl (cI, 60, .inl (fun _ => 0))), (a4, .inl (cI, 60, .inl (fun _ => 0)))] := hD
  refine va_putF (D := (dC, dI)) (ci := 2) (v := .ref a4) (ty := .array .int) (C := R_M) (T := F_M) (N := 9) hx hb htw u_M t_M t_M_ok n_M hown hK hP hD hS 0 rfl rfl 5 (by decide) (htw _ l_M_19) (fun _ h9 => h9) rfl hin rfl (by decide +kernel) rfl rfl (Nat.le_of_ble_eq_true rfl) d_M_init_35 (fun H locs hP hD hS => ?_)
  have hP : va_P (dC, dI) classes [(h0, .inr (2, [.int 0, .int 0, .ref a1, .ref a2, .ref a3, .ref a4, .null, .null, .null])), (a1, .inl (cI, 1024, .inl (fun _ => 0))), (a2, .inl (cI, 1024, .inl (fun _ => 0))), (a3, .inl (cI, 60, .inl (fun _ => 0))), (a4, .inl (cI, 60, .inl (fun _ => 0)))] H := hP
  have hD : va_D _ [(h0, .inr (2, [.int 0, .int 0, .ref a1, .ref a2, .ref a3, .ref a4, .null, .null, .null])), (a1, .inl (cI, 1024, .inl (fun _ => 0))), (a2, .inl (cI, 1024, .inl (fun _ => 0))), (a3, .inl (cI, 60, .inl (fun _ => 0))), (a4, .inl (cI, 60, .inl (fun _ => 0)))] := hD
  refine lv_aload_n hx hb d_M_init_38 rfl (lv_at hl 0 rfl) ?_
  refine lv_bipush (v := nI 32) hx hb d_M_init_39 (by decide) ?_
  refine va_newa (atype := .int) (ty := .int) (N' := 32) (a0 := (32, .inl (fun _ => 0))) hx hb (htw _ ac_int) rfl hK hP hD hS hA (fun _ => rfl) (by decide) (by decide) (by decide) (Nat.le_of_ble_eq_true rfl) (Nat.le_of_ble_eq_true rfl) d_M_init_41 (fun a5 cA H hK9 hP hD hS => ?_)
  have ec := rk_eqI hK hK9
  subst ec
  have hP : va_P (dC, dI) classes [(h0, .inr (2, [.int 0, .int 0, .ref a1, .ref a2, .ref a3, .ref a4, .null, .null, .null])), (a1, .inl (cI, 1024, .inl (fun _ => 0))), (a2, .inl (cI, 1024, .inl (fun _ => 0))), (a3, .inl (cI, 60, .inl (fun _ => 0))), (a4, .inl (cI, 60, .inl (fun _ => 0))), (a5, .inl (cI, 32, .inl (fun _ => 0)))] H := hP
  have hD : va_D _ [(h0, .inr (2, [.int 0, .int 0, .ref a1, .ref a2, .ref a3, .ref a4, .null, .null, .null])), (a1, .inl (cI, 1024, .inl (fun _ => 0))), (a2, .inl (cI, 1024, .inl (fun _ => 0))), (a3, .inl (cI, 60, .inl (fun _ => 0))), (a4, .inl (cI, 60, .inl (fun _ => 0))), (a5, .inl (cI, 32, .inl (fun _ => 0)))] := hD
  refine va_putF (D := (dC, dI)) (ci := 2) (v := .ref a5) (ty := .array .int) (C := R_M) (T := F_M) (N := 9) hx hb htw u_M t_M t_M_ok n_M hown hK hP hD hS 0 rfl rfl 6 (by decide) (htw _ l_M_22) (fun _ h9 => h9) rfl hin rfl (by decide +kernel) rfl rfl (Nat.le_of_ble_eq_true rfl) d_M_init_43 (fun H locs hP hD hS => ?_)
  have hP : va_P (dC, dI) classes [(h0, .inr (2, [.int 0, .int 0, .ref a1, .ref a2, .ref a3, .ref a4, .ref a5, .null, .null])), (a1, .inl (cI, 1024, .inl (fun _ => 0))), (a2, .inl (cI, 1024, .inl (fun _ => 0))), (a3, .inl (cI, 60, .inl (fun _ => 0))), (a4, .inl (cI, 60, .inl (fun _ => 0))), (a5, .inl (cI, 32, .inl (fun _ => 0)))] H := hP
  have hD : va_D _ [(h0, .inr (2, [.int 0, .int 0, .ref a1, .ref a2, .ref a3, .ref a4, .ref a5, .null, .null])), (a1, .inl (cI, 1024, .inl (fun _ => 0))), (a2, .inl (cI, 1024, .inl (fun _ => 0))), (a3, .inl (cI, 60, .inl (fun _ => 0))), (a4, .inl (cI, 60, .inl (fun _ => 0))), (a5, .inl (cI, 32, .inl (fun _ => 0)))] := hD
  refine lv_aload_n hx hb d_M_init_46 rfl (lv_at hl 0 rfl) ?_
  refine lv_sipush (v := nI 1024) hx hb d_M_init_47 (by decide) ?_
  refine va_newa (atype := .boolean) (ty := .boolean) (N' := 1024) (a0 := (1024, .inl (fun p => zI ((fun _ => false) p)))) hx hb (htw _ ac_boolean) rfl hK hP hD hS hA (fun _ => rfl) (by decide) (by decide) (by decide) (Nat.le_of_ble_eq_true rfl) (Nat.le_of_ble_eq_true rfl) d_M_init_50 (fun a6 cA H hK9 hP hD hS => ?_)
  have ec := rk_eqZ hK hK9
  subst ec
  have hP : va_P (dC, dI) classes [(h0, .inr (2, [.int 0, .int 0, .ref a1, .ref a2, .ref a3, .ref a4, .ref a5, .null, .null])), (a1, .inl (cI, 1024, .inl (fun _ => 0))), (a2, .inl (cI, 1024, .inl (fun _ => 0))), (a3, .inl (cI, 60, .inl (fun _ => 0))), (a4, .inl (cI, 60, .inl (fun _ => 0))), (a5, .inl (cI, 32, .inl (fun _ => 0))), (a6, .inl (cZ, 1024, .inl (fun p => zI ((fun _ => false) p))))] H := hP
  have hD : va_D _ [(h0, .inr (2, [.int 0, .int 0, .ref a1, .ref a2, .ref a3, .ref a4, .ref a5, .null, .null])), (a1, .inl (cI, 1024, .inl (fun _ => 0))), (a2, .inl (cI, 1024, .inl (fun _ => 0))), (a3, .inl (cI, 60, .inl (fun _ => 0))), (a4, .inl (cI, 60, .inl (fun _ => 0))), (a5, .inl (cI, 32, .inl (fun _ => 0))), (a6, .inl (cZ, 1024, .inl (fun p => zI ((fun _ => false) p))))] := hD
  refine va_putF (D := (dC, dI)) (ci := 2) (v := .ref a6) (ty := .array .boolean) (C := R_M) (T := F_M) (N := 9) hx hb htw u_M t_M t_M_ok n_M hown hK hP hD hS 0 rfl rfl 7 (by decide) (htw _ l_M_25) (fun _ h9 => h9) rfl hin rfl (by decide +kernel) rfl rfl (Nat.le_of_ble_eq_true rfl) d_M_init_52 (fun H locs hP hD hS => ?_)
  have hP : va_P (dC, dI) classes [(h0, .inr (2, [.int 0, .int 0, .ref a1, .ref a2, .ref a3, .ref a4, .ref a5, .ref a6, .null])), (a1, .inl (cI, 1024, .inl (fun _ => 0))), (a2, .inl (cI, 1024, .inl (fun _ => 0))), (a3, .inl (cI, 60, .inl (fun _ => 0))), (a4, .inl (cI, 60, .inl (fun _ => 0))), (a5, .inl (cI, 32, .inl (fun _ => 0))), (a6, .inl (cZ, 1024, .inl (fun p => zI ((fun _ => false) p))))] H := hP
  have hD : va_D _ [(h0, .inr (2, [.int 0, .int 0, .ref a1, .ref a2, .ref a3, .ref a4, .ref a5, .ref a6, .null])), (a1, .inl (cI, 1024, .inl (fun _ => 0))), (a2, .inl (cI, 1024, .inl (fun _ => 0))), (a3, .inl (cI, 60, .inl (fun _ => 0))), (a4, .inl (cI, 60, .inl (fun _ => 0))), (a5, .inl (cI, 32, .inl (fun _ => 0))), (a6, .inl (cZ, 1024, .inl (fun p => zI ((fun _ => false) p))))] := hD
  refine lv_aload_n hx hb d_M_init_55 rfl (lv_at hl 0 rfl) ?_
  refine lv_sipush (v := nI 1024) hx hb d_M_init_56 (by decide) ?_
  refine va_newa (atype := .boolean) (ty := .boolean) (N' := 1024) (a0 := (1024, .inl (fun p => zI ((fun _ => false) p)))) hx hb (htw _ ac_boolean) rfl hK hP hD hS hA (fun _ => rfl) (by decide) (by decide) (by decide) (Nat.le_of_ble_eq_true rfl) (Nat.le_of_ble_eq_true rfl) d_M_init_59 (fun a7 cA H hK9 hP hD hS => ?_)
  have ec := rk_eqZ hK hK9
  subst ec
  have hP : va_P (dC, dI) classes [(h0, .inr (2, [.int 0, .int 0, .ref a1, .ref a2, .ref a3, .ref a4, .ref a5, .ref a6, .null])), (a1, .inl (cI, 1024, .inl (fun _ => 0))), (a2, .inl (cI, 1024, .inl (fun _ => 0))), (a3, .inl (cI, 60, .inl (fun _ => 0))), (a4, .inl (cI, 60, .inl (fun _ => 0))), (a5, .inl (cI, 32, .inl (fun _ => 0))), (a6, .inl (cZ, 1024, .inl (fun p => zI ((fun _ => false) p)))), (a7, .inl (cZ, 1024, .inl (fun p => zI ((fun _ => false) p))))] H := hP
  have hD : va_D _ [(h0, .inr (2, [.int 0, .int 0, .ref a1, .ref a2, .ref a3, .ref a4, .ref a5, .ref a6, .null])), (a1, .inl (cI, 1024, .inl (fun _ => 0))), (a2, .inl (cI, 1024, .inl (fun _ => 0))), (a3, .inl (cI, 60, .inl (fun _ => 0))), (a4, .inl (cI, 60, .inl (fun _ => 0))), (a5, .inl (cI, 32, .inl (fun _ => 0))), (a6, .inl (cZ, 1024, .inl (fun p => zI ((fun _ => false) p)))), (a7, .inl (cZ, 1024, .inl (fun p => zI ((fun _ => false) p))))] := hD
  refine va_putF (D := (dC, dI)) (ci := 2) (v := .ref a7) (ty := .array .boolean) (C := R_M) (T := F_M) (N := 9) hx hb htw u_M t_M t_M_ok n_M hown hK hP hD hS 0 rfl rfl 8 (by decide) (htw _ l_M_29) (fun _ h9 => h9) rfl hin rfl (by decide +kernel) rfl rfl (Nat.le_of_ble_eq_true rfl) d_M_init_61 (fun H locs hP hD hS => ?_)
  have hP : va_P (dC, dI) classes [(h0, .inr (2, [.int 0, .int 0, .ref a1, .ref a2, .ref a3, .ref a4, .ref a5, .ref a6, .ref a7])), (a1, .inl (cI, 1024, .inl (fun _ => 0))), (a2, .inl (cI, 1024, .inl (fun _ => 0))), (a3, .inl (cI, 60, .inl (fun _ => 0))), (a4, .inl (cI, 60, .inl (fun _ => 0))), (a5, .inl (cI, 32, .inl (fun _ => 0))), (a6, .inl (cZ, 1024, .inl (fun p => zI ((fun _ => false) p)))), (a7, .inl (cZ, 1024, .inl (fun p => zI ((fun _ => false) p))))] H := hP
  have hD : va_D _ [(h0, .inr (2, [.int 0, .int 0, .ref a1, .ref a2, .ref a3, .ref a4, .ref a5, .ref a6, .ref a7])), (a1, .inl (cI, 1024, .inl (fun _ => 0))), (a2, .inl (cI, 1024, .inl (fun _ => 0))), (a3, .inl (cI, 60, .inl (fun _ => 0))), (a4, .inl (cI, 60, .inl (fun _ => 0))), (a5, .inl (cI, 32, .inl (fun _ => 0))), (a6, .inl (cZ, 1024, .inl (fun p => zI ((fun _ => false) p)))), (a7, .inl (cZ, 1024, .inl (fun p => zI ((fun _ => false) p))))] := hD
  refine W.widen (k := 7) (n := 4248) (by omega) (by omega) ?_
  exact rk_vret ((a1, a2, a3, a4, a5, a6, a7)) hx hb hr hlocks (trivial) rfl hP hK hD hS d_M_init_64
end
