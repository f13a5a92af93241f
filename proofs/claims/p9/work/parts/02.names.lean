-- ===== PART A: goes FIRST, ahead of the names: the tables' words, and 'selects' of the private methods out of them =====
/-- a private method of a class that the tables say can be made, by its rows of tables_1 -/
def lw_okq (q : MethodName × Nat) : Prop := (q.1.cls ≠ "java/lang/invoke/MethodHandle" ∧ q.1.cls ≠ "java/lang/invoke/VarHandle") ∧ Cond.instantiable q.1.cls q.2 ∈ tables_1 ∧ Cond.privateMethod q.1 ∈ tables_1 ∧ Cond.instanceMethod q.1 ∈ tables_1
theorem lw_p0 : lw_okq (⟨"Momentdesk", "areMomentsSound", "()Z"⟩, 8) := ⟨⟨by decide +kernel, by decide +kernel⟩, List.mem_of_getElem? (i := 25) (by decide +kernel), List.mem_of_getElem? (i := 88) (by decide +kernel), List.mem_of_getElem? (i := 89) (by decide +kernel)⟩
theorem lw_p1 : lw_okq (⟨"Momentdesk", "areDatesToldAnewSound", "()Z"⟩, 8) := ⟨⟨by decide +kernel, by decide +kernel⟩, List.mem_of_getElem? (i := 25) (by decide +kernel), List.mem_of_getElem? (i := 116) (by decide +kernel), List.mem_of_getElem? (i := 117) (by decide +kernel)⟩
theorem lw_p2 : lw_okq (⟨"java/lang/Throwable", "fillInStackTrace", "(I)Ljava/lang/Throwable;"⟩, 6) := ⟨⟨by decide +kernel, by decide +kernel⟩, List.mem_of_getElem? (i := 160) (by decide +kernel), List.mem_of_getElem? (i := 158) (by decide +kernel), List.mem_of_getElem? (i := 159) (by decide +kernel)⟩
theorem lw_p3 : lw_okq (⟨"Momentdesk", "isToldAnewSound", "(LMomentdesk$Local;I)Z"⟩, 8) := ⟨⟨by decide +kernel, by decide +kernel⟩, List.mem_of_getElem? (i := 25) (by decide +kernel), List.mem_of_getElem? (i := 190) (by decide +kernel), List.mem_of_getElem? (i := 191) (by decide +kernel)⟩
theorem lw_p4 : lw_okq (⟨"Momentdesk", "arePairsSound", "()Z"⟩, 8) := ⟨⟨by decide +kernel, by decide +kernel⟩, List.mem_of_getElem? (i := 25) (by decide +kernel), List.mem_of_getElem? (i := 208) (by decide +kernel), List.mem_of_getElem? (i := 209) (by decide +kernel)⟩
theorem lw_p5 : lw_okq (⟨"Momentdesk", "areStrikesSound", "()Z"⟩, 8) := ⟨⟨by decide +kernel, by decide +kernel⟩, List.mem_of_getElem? (i := 25) (by decide +kernel), List.mem_of_getElem? (i := 230) (by decide +kernel), List.mem_of_getElem? (i := 231) (by decide +kernel)⟩
theorem lw_p6 : lw_okq (⟨"Momentdesk", "withOffsets", "(J)J"⟩, 8) := ⟨⟨by decide +kernel, by decide +kernel⟩, List.mem_of_getElem? (i := 25) (by decide +kernel), List.mem_of_getElem? (i := 254) (by decide +kernel), List.mem_of_getElem? (i := 255) (by decide +kernel)⟩
theorem lw_p7 : lw_okq (⟨"Momentdesk", "withMoments", "(J)J"⟩, 8) := ⟨⟨by decide +kernel, by decide +kernel⟩, List.mem_of_getElem? (i := 25) (by decide +kernel), List.mem_of_getElem? (i := 269) (by decide +kernel), List.mem_of_getElem? (i := 270) (by decide +kernel)⟩
theorem lw_p8 : lw_okq (⟨"Momentdesk", "withDates", "(J)J"⟩, 8) := ⟨⟨by decide +kernel, by decide +kernel⟩, List.mem_of_getElem? (i := 25) (by decide +kernel), List.mem_of_getElem? (i := 277) (by decide +kernel), List.mem_of_getElem? (i := 278) (by decide +kernel)⟩
theorem lw_p9 : lw_okq (⟨"Momentdesk", "withClocks", "(J)J"⟩, 8) := ⟨⟨by decide +kernel, by decide +kernel⟩, List.mem_of_getElem? (i := 25) (by decide +kernel), List.mem_of_getElem? (i := 329) (by decide +kernel), List.mem_of_getElem? (i := 330) (by decide +kernel)⟩
theorem lw_p10 : lw_okq (⟨"Momentdesk", "withDatePairs", "(J)J"⟩, 8) := ⟨⟨by decide +kernel, by decide +kernel⟩, List.mem_of_getElem? (i := 25) (by decide +kernel), List.mem_of_getElem? (i := 336) (by decide +kernel), List.mem_of_getElem? (i := 337) (by decide +kernel)⟩
theorem lw_p11 : lw_okq (⟨"Momentdesk", "withClockPairs", "(J)J"⟩, 8) := ⟨⟨by decide +kernel, by decide +kernel⟩, List.mem_of_getElem? (i := 25) (by decide +kernel), List.mem_of_getElem? (i := 340) (by decide +kernel), List.mem_of_getElem? (i := 341) (by decide +kernel)⟩
theorem lw_p12 : lw_okq (⟨"Momentdesk", "withHouse", "(J)J"⟩, 8) := ⟨⟨by decide +kernel, by decide +kernel⟩, List.mem_of_getElem? (i := 25) (by decide +kernel), List.mem_of_getElem? (i := 344) (by decide +kernel), List.mem_of_getElem? (i := 345) (by decide +kernel)⟩
theorem lw_p13 : lw_okq (⟨"Momentdesk", "firstDated", "()I"⟩, 8) := ⟨⟨by decide +kernel, by decide +kernel⟩, List.mem_of_getElem? (i := 25) (by decide +kernel), List.mem_of_getElem? (i := 371) (by decide +kernel), List.mem_of_getElem? (i := 372) (by decide +kernel)⟩
theorem lw_p14 : lw_okq (⟨"Momentdesk", "firstMoment", "()I"⟩, 8) := ⟨⟨by decide +kernel, by decide +kernel⟩, List.mem_of_getElem? (i := 25) (by decide +kernel), List.mem_of_getElem? (i := 375) (by decide +kernel), List.mem_of_getElem? (i := 376) (by decide +kernel)⟩
theorem lw_p15 : lw_okq (⟨"Momentdesk", "refused", "()I"⟩, 8) := ⟨⟨by decide +kernel, by decide +kernel⟩, List.mem_of_getElem? (i := 25) (by decide +kernel), List.mem_of_getElem? (i := 415) (by decide +kernel), List.mem_of_getElem? (i := 416) (by decide +kernel)⟩
def lw_privs_1 : List (MethodName × Nat) := [(⟨"Momentdesk", "areMomentsSound", "()Z"⟩, 8), (⟨"Momentdesk", "areDatesToldAnewSound", "()Z"⟩, 8), (⟨"java/lang/Throwable", "fillInStackTrace", "(I)Ljava/lang/Throwable;"⟩, 6), (⟨"Momentdesk", "isToldAnewSound", "(LMomentdesk$Local;I)Z"⟩, 8), (⟨"Momentdesk", "arePairsSound", "()Z"⟩, 8), (⟨"Momentdesk", "areStrikesSound", "()Z"⟩, 8), (⟨"Momentdesk", "withOffsets", "(J)J"⟩, 8), (⟨"Momentdesk", "withMoments", "(J)J"⟩, 8), (⟨"Momentdesk", "withDates", "(J)J"⟩, 8), (⟨"Momentdesk", "withClocks", "(J)J"⟩, 8), (⟨"Momentdesk", "withDatePairs", "(J)J"⟩, 8), (⟨"Momentdesk", "withClockPairs", "(J)J"⟩, 8), (⟨"Momentdesk", "withHouse", "(J)J"⟩, 8), (⟨"Momentdesk", "firstDated", "()I"⟩, 8), (⟨"Momentdesk", "firstMoment", "()I"⟩, 8), (⟨"Momentdesk", "refused", "()I"⟩, 8)]
theorem lw_r1 : ∀ q ∈ lw_privs_1, lw_okq q := List.forall_mem_cons.mpr ⟨lw_p0, List.forall_mem_cons.mpr ⟨lw_p1, List.forall_mem_cons.mpr ⟨lw_p2, List.forall_mem_cons.mpr ⟨lw_p3, List.forall_mem_cons.mpr ⟨lw_p4, List.forall_mem_cons.mpr ⟨lw_p5, List.forall_mem_cons.mpr ⟨lw_p6, List.forall_mem_cons.mpr ⟨lw_p7, List.forall_mem_cons.mpr ⟨lw_p8, List.forall_mem_cons.mpr ⟨lw_p9, List.forall_mem_cons.mpr ⟨lw_p10, List.forall_mem_cons.mpr ⟨lw_p11, List.forall_mem_cons.mpr ⟨lw_p12, List.forall_mem_cons.mpr ⟨lw_p13, List.forall_mem_cons.mpr ⟨lw_p14, List.forall_mem_cons.mpr ⟨lw_p15, fun _ h => absurd h List.not_mem_nil⟩⟩⟩⟩⟩⟩⟩⟩⟩⟩⟩⟩⟩⟩⟩⟩
theorem lw_p16 : lw_okq (⟨"Momentdesk", "putNumber", "(IJ)I"⟩, 8) := ⟨⟨by decide +kernel, by decide +kernel⟩, List.mem_of_getElem? (i := 25) (by decide +kernel), List.mem_of_getElem? (i := 440) (by decide +kernel), List.mem_of_getElem? (i := 441) (by decide +kernel)⟩
theorem lw_p17 : lw_okq (⟨"Momentdesk", "putLocal", "(LMomentdesk$Local;JII)I"⟩, 8) := ⟨⟨by decide +kernel, by decide +kernel⟩, List.mem_of_getElem? (i := 25) (by decide +kernel), List.mem_of_getElem? (i := 830) (by decide +kernel), List.mem_of_getElem? (i := 831) (by decide +kernel)⟩
theorem lw_p18 : lw_okq (⟨"Momentdesk", "putMonths", "(LMomentdesk$Local;J)I"⟩, 8) := ⟨⟨by decide +kernel, by decide +kernel⟩, List.mem_of_getElem? (i := 25) (by decide +kernel), List.mem_of_getElem? (i := 856) (by decide +kernel), List.mem_of_getElem? (i := 857) (by decide +kernel)⟩
theorem lw_p19 : lw_okq (⟨"Momentdesk", "putDay", "(LMomentdesk$Local;I)I"⟩, 8) := ⟨⟨by decide +kernel, by decide +kernel⟩, List.mem_of_getElem? (i := 25) (by decide +kernel), List.mem_of_getElem? (i := 862) (by decide +kernel), List.mem_of_getElem? (i := 863) (by decide +kernel)⟩
theorem lw_p20 : lw_okq (⟨"Momentdesk", "setOfDay", "(LMomentdesk$Local;II)I"⟩, 8) := ⟨⟨by decide +kernel, by decide +kernel⟩, List.mem_of_getElem? (i := 25) (by decide +kernel), List.mem_of_getElem? (i := 882) (by decide +kernel), List.mem_of_getElem? (i := 883) (by decide +kernel)⟩
theorem lw_p21 : lw_okq (⟨"Momentdesk", "setOfTime", "(LMomentdesk$Local;II)I"⟩, 8) := ⟨⟨by decide +kernel, by decide +kernel⟩, List.mem_of_getElem? (i := 25) (by decide +kernel), List.mem_of_getElem? (i := 890) (by decide +kernel), List.mem_of_getElem? (i := 891) (by decide +kernel)⟩
theorem lw_p22 : lw_okq (⟨"Momentdesk", "setPart", "(LMomentdesk$Local;IIIJ)I"⟩, 8) := ⟨⟨by decide +kernel, by decide +kernel⟩, List.mem_of_getElem? (i := 25) (by decide +kernel), List.mem_of_getElem? (i := 894) (by decide +kernel), List.mem_of_getElem? (i := 895) (by decide +kernel)⟩
theorem lw_p23 : lw_okq (⟨"Momentdesk", "putClock", "(LMomentdesk$Local;JII)I"⟩, 8) := ⟨⟨by decide +kernel, by decide +kernel⟩, List.mem_of_getElem? (i := 25) (by decide +kernel), List.mem_of_getElem? (i := 944) (by decide +kernel), List.mem_of_getElem? (i := 945) (by decide +kernel)⟩
theorem lw_p24 : lw_okq (⟨"MomentdeskModel", "isStopped", "(ZZ)Z"⟩, 9) := ⟨⟨by decide +kernel, by decide +kernel⟩, List.mem_of_getElem? (i := 1008) (by decide +kernel), List.mem_of_getElem? (i := 1059) (by decide +kernel), List.mem_of_getElem? (i := 1060) (by decide +kernel)⟩
theorem lw_p25 : lw_okq (⟨"MomentdeskModel", "no", "()I"⟩, 9) := ⟨⟨by decide +kernel, by decide +kernel⟩, List.mem_of_getElem? (i := 1008) (by decide +kernel), List.mem_of_getElem? (i := 1071) (by decide +kernel), List.mem_of_getElem? (i := 1072) (by decide +kernel)⟩
theorem lw_p26 : lw_okq (⟨"MomentdeskModel", "become", "(IJ)I"⟩, 9) := ⟨⟨by decide +kernel, by decide +kernel⟩, List.mem_of_getElem? (i := 1008) (by decide +kernel), List.mem_of_getElem? (i := 1094) (by decide +kernel), List.mem_of_getElem? (i := 1095) (by decide +kernel)⟩
theorem lw_p27 : lw_okq (⟨"MomentdeskModel", "number", "(I)J"⟩, 9) := ⟨⟨by decide +kernel, by decide +kernel⟩, List.mem_of_getElem? (i := 1008) (by decide +kernel), List.mem_of_getElem? (i := 1121) (by decide +kernel), List.mem_of_getElem? (i := 1122) (by decide +kernel)⟩
theorem lw_p28 : lw_okq (⟨"MomentdeskModel", "put", "(IIIII)I"⟩, 9) := ⟨⟨by decide +kernel, by decide +kernel⟩, List.mem_of_getElem? (i := 1008) (by decide +kernel), List.mem_of_getElem? (i := 1209) (by decide +kernel), List.mem_of_getElem? (i := 1210) (by decide +kernel)⟩
theorem lw_p29 : lw_okq (⟨"MomentdeskModel", "put", "(IJJII)I"⟩, 9) := ⟨⟨by decide +kernel, by decide +kernel⟩, List.mem_of_getElem? (i := 1008) (by decide +kernel), List.mem_of_getElem? (i := 1217) (by decide +kernel), List.mem_of_getElem? (i := 1218) (by decide +kernel)⟩
theorem lw_p30 : lw_okq (⟨"MomentdeskModel", "moveMonths", "(IJ)I"⟩, 9) := ⟨⟨by decide +kernel, by decide +kernel⟩, List.mem_of_getElem? (i := 1008) (by decide +kernel), List.mem_of_getElem? (i := 1229) (by decide +kernel), List.mem_of_getElem? (i := 1230) (by decide +kernel)⟩
theorem lw_p31 : lw_okq (⟨"MomentdeskModel", "putDay", "(IIII)I"⟩, 9) := ⟨⟨by decide +kernel, by decide +kernel⟩, List.mem_of_getElem? (i := 1008) (by decide +kernel), List.mem_of_getElem? (i := 1239) (by decide +kernel), List.mem_of_getElem? (i := 1240) (by decide +kernel)⟩
def lw_privs_2 : List (MethodName × Nat) := [(⟨"Momentdesk", "putNumber", "(IJ)I"⟩, 8), (⟨"Momentdesk", "putLocal", "(LMomentdesk$Local;JII)I"⟩, 8), (⟨"Momentdesk", "putMonths", "(LMomentdesk$Local;J)I"⟩, 8), (⟨"Momentdesk", "putDay", "(LMomentdesk$Local;I)I"⟩, 8), (⟨"Momentdesk", "setOfDay", "(LMomentdesk$Local;II)I"⟩, 8), (⟨"Momentdesk", "setOfTime", "(LMomentdesk$Local;II)I"⟩, 8), (⟨"Momentdesk", "setPart", "(LMomentdesk$Local;IIIJ)I"⟩, 8), (⟨"Momentdesk", "putClock", "(LMomentdesk$Local;JII)I"⟩, 8), (⟨"MomentdeskModel", "isStopped", "(ZZ)Z"⟩, 9), (⟨"MomentdeskModel", "no", "()I"⟩, 9), (⟨"MomentdeskModel", "become", "(IJ)I"⟩, 9), (⟨"MomentdeskModel", "number", "(I)J"⟩, 9), (⟨"MomentdeskModel", "put", "(IIIII)I"⟩, 9), (⟨"MomentdeskModel", "put", "(IJJII)I"⟩, 9), (⟨"MomentdeskModel", "moveMonths", "(IJ)I"⟩, 9), (⟨"MomentdeskModel", "putDay", "(IIII)I"⟩, 9)]
theorem lw_r2 : ∀ q ∈ lw_privs_2, lw_okq q := List.forall_mem_cons.mpr ⟨lw_p16, List.forall_mem_cons.mpr ⟨lw_p17, List.forall_mem_cons.mpr ⟨lw_p18, List.forall_mem_cons.mpr ⟨lw_p19, List.forall_mem_cons.mpr ⟨lw_p20, List.forall_mem_cons.mpr ⟨lw_p21, List.forall_mem_cons.mpr ⟨lw_p22, List.forall_mem_cons.mpr ⟨lw_p23, List.forall_mem_cons.mpr ⟨lw_p24, List.forall_mem_cons.mpr ⟨lw_p25, List.forall_mem_cons.mpr ⟨lw_p26, List.forall_mem_cons.mpr ⟨lw_p27, List.forall_mem_cons.mpr ⟨lw_p28, List.forall_mem_cons.mpr ⟨lw_p29, List.forall_mem_cons.mpr ⟨lw_p30, List.forall_mem_cons.mpr ⟨lw_p31, fun _ h => absurd h List.not_mem_nil⟩⟩⟩⟩⟩⟩⟩⟩⟩⟩⟩⟩⟩⟩⟩⟩
theorem lw_p32 : lw_okq (⟨"MomentdeskModel", "told", "(II)I"⟩, 9) := ⟨⟨by decide +kernel, by decide +kernel⟩, List.mem_of_getElem? (i := 1008) (by decide +kernel), List.mem_of_getElem? (i := 1264) (by decide +kernel), List.mem_of_getElem? (i := 1265) (by decide +kernel)⟩
theorem lw_p33 : lw_okq (⟨"MomentdeskModel", "ordered", "(II)I"⟩, 9) := ⟨⟨by decide +kernel, by decide +kernel⟩, List.mem_of_getElem? (i := 1008) (by decide +kernel), List.mem_of_getElem? (i := 1272) (by decide +kernel), List.mem_of_getElem? (i := 1273) (by decide +kernel)⟩
theorem lw_p34 : lw_okq (⟨"MomentdeskModel", "is", "(III)Z"⟩, 9) := ⟨⟨by decide +kernel, by decide +kernel⟩, List.mem_of_getElem? (i := 1008) (by decide +kernel), List.mem_of_getElem? (i := 1280) (by decide +kernel), List.mem_of_getElem? (i := 1281) (by decide +kernel)⟩
theorem lw_p35 : lw_okq (⟨"MomentdeskModel", "turn", "(IJII)I"⟩, 9) := ⟨⟨by decide +kernel, by decide +kernel⟩, List.mem_of_getElem? (i := 1008) (by decide +kernel), List.mem_of_getElem? (i := 1291) (by decide +kernel), List.mem_of_getElem? (i := 1292) (by decide +kernel)⟩
theorem lw_p36 : lw_okq (⟨"MomentdeskModel", "ofSecond", "(I)I"⟩, 9) := ⟨⟨by decide +kernel, by decide +kernel⟩, List.mem_of_getElem? (i := 1008) (by decide +kernel), List.mem_of_getElem? (i := 1295) (by decide +kernel), List.mem_of_getElem? (i := 1296) (by decide +kernel)⟩
theorem lw_p37 : lw_okq (⟨"MomentdeskModel", "clockTold", "(II)I"⟩, 9) := ⟨⟨by decide +kernel, by decide +kernel⟩, List.mem_of_getElem? (i := 1008) (by decide +kernel), List.mem_of_getElem? (i := 1325) (by decide +kernel), List.mem_of_getElem? (i := 1326) (by decide +kernel)⟩
theorem lw_p38 : lw_okq (⟨"MomentdeskModel", "houseTold", "(I)I"⟩, 9) := ⟨⟨by decide +kernel, by decide +kernel⟩, List.mem_of_getElem? (i := 1008) (by decide +kernel), List.mem_of_getElem? (i := 1345) (by decide +kernel), List.mem_of_getElem? (i := 1346) (by decide +kernel)⟩
def lw_privs_3 : List (MethodName × Nat) := [(⟨"MomentdeskModel", "told", "(II)I"⟩, 9), (⟨"MomentdeskModel", "ordered", "(II)I"⟩, 9), (⟨"MomentdeskModel", "is", "(III)Z"⟩, 9), (⟨"MomentdeskModel", "turn", "(IJII)I"⟩, 9), (⟨"MomentdeskModel", "ofSecond", "(I)I"⟩, 9), (⟨"MomentdeskModel", "clockTold", "(II)I"⟩, 9), (⟨"MomentdeskModel", "houseTold", "(I)I"⟩, 9)]
theorem lw_r3 : ∀ q ∈ lw_privs_3, lw_okq q := List.forall_mem_cons.mpr ⟨lw_p32, List.forall_mem_cons.mpr ⟨lw_p33, List.forall_mem_cons.mpr ⟨lw_p34, List.forall_mem_cons.mpr ⟨lw_p35, List.forall_mem_cons.mpr ⟨lw_p36, List.forall_mem_cons.mpr ⟨lw_p37, List.forall_mem_cons.mpr ⟨lw_p38, fun _ h => absurd h List.not_mem_nil⟩⟩⟩⟩⟩⟩⟩
def lw_privs : List (MethodName × Nat) := lw_privs_1 ++ (lw_privs_2 ++ (lw_privs_3))
def lw_tbl : List Cond := k2_sels lw_privs ++ tables_1
theorem lw_privs_ok : ∀ q ∈ lw_privs, lw_okq q := by
  show ∀ q ∈ lw_privs_1 ++ (lw_privs_2 ++ (lw_privs_3)), lw_okq q
  exact List.forall_mem_append.mpr ⟨lw_r1, List.forall_mem_append.mpr ⟨lw_r2, lw_r3⟩⟩
def RX0 : String := "Momentdesk$Calendar"
abbrev cX0_isLeap : ByteArray := prog_2_method_2_code
def yX0_isLeap : MethodName := ⟨RX0, "isLeap", "(I)Z"⟩
abbrev cX0_lengthOfYear : ByteArray := prog_2_method_3_code
def yX0_lengthOfYear : MethodName := ⟨RX0, "lengthOfYear", "(I)I"⟩
abbrev cX0_lengthOfMonth : ByteArray := prog_2_method_4_code
def yX0_lengthOfMonth : MethodName := ⟨RX0, "lengthOfMonth", "(II)I"⟩
abbrev cX0_isDay : ByteArray := prog_2_method_5_code
def yX0_isDay : MethodName := ⟨RX0, "isDay", "(III)Z"⟩
abbrev cX0_firstDayOf : ByteArray := prog_2_method_6_code
def yX0_firstDayOf : MethodName := ⟨RX0, "firstDayOf", "(I)I"⟩
abbrev cX0_daysBeforeMonth : ByteArray := prog_2_method_7_code
def yX0_daysBeforeMonth : MethodName := ⟨RX0, "daysBeforeMonth", "(II)I"⟩
abbrev cX0_dayOf : ByteArray := prog_2_method_8_code
def yX0_dayOf : MethodName := ⟨RX0, "dayOf", "(III)I"⟩
abbrev cX0_yearOf : ByteArray := prog_2_method_9_code
def yX0_yearOf : MethodName := ⟨RX0, "yearOf", "(I)I"⟩
abbrev cX0_dayOfYear : ByteArray := prog_2_method_10_code
def yX0_dayOfYear : MethodName := ⟨RX0, "dayOfYear", "(I)I"⟩
abbrev cX0_monthOf : ByteArray := prog_2_method_11_code
def yX0_monthOf : MethodName := ⟨RX0, "monthOf", "(I)I"⟩
abbrev cX0_dayOfMonth : ByteArray := prog_2_method_12_code
def yX0_dayOfMonth : MethodName := ⟨RX0, "dayOfMonth", "(I)I"⟩
abbrev cX0_dayOfWeek : ByteArray := prog_2_method_13_code
def yX0_dayOfWeek : MethodName := ⟨RX0, "dayOfWeek", "(I)I"⟩
def RX1 : String := "Momentdesk$Local"
def TX1 : u_T := fun k => match k with
  | 0 => ("Momentdesk$Local", "second", "J", false)
  | 1 => ("Momentdesk$Local", "nano", "I", false)
  | _ => ("Momentdesk$Local", "offset", "I", false)
def tyX1 : Nat → FieldType := fun k => match k with
  | 0 => .long
  | 1 => .int
  | _ => .int
theorem nmX1 : ∀ a, a < 3 → ∀ b, b < 3 → a ≠ b → (TX1 a).2.1 ≠ (TX1 b).2.1 := by decide +kernel
theorem tyX1_ok : ∀ k, k < 3 → parseFieldDescriptor (TX1 k).2.2.1 = some (tyX1 k) := by decide +kernel
abbrev cX1_init : ByteArray := prog_3_method_1_code
def yX1_init : MethodName := ⟨RX1, "<init>", "()V"⟩
abbrev cX1_tell : ByteArray := prog_3_method_2_code
def yX1_tell : MethodName := ⟨RX1, "tell", "(JII)V"⟩
abbrev cX1_day : ByteArray := prog_3_method_3_code
def yX1_day : MethodName := ⟨RX1, "day", "()I"⟩
abbrev cX1_beginOfDay : ByteArray := prog_3_method_4_code
def yX1_beginOfDay : MethodName := ⟨RX1, "beginOfDay", "()J"⟩
abbrev cX1_months : ByteArray := prog_3_method_5_code
def yX1_months : MethodName := ⟨RX1, "months", "()J"⟩
abbrev cX1_secondOfDay : ByteArray := prog_3_method_6_code
def yX1_secondOfDay : MethodName := ⟨RX1, "secondOfDay", "()I"⟩
abbrev cX1_hour : ByteArray := prog_3_method_7_code
def yX1_hour : MethodName := ⟨RX1, "hour", "()I"⟩
abbrev cX1_minute : ByteArray := prog_3_method_8_code
def yX1_minute : MethodName := ⟨RX1, "minute", "()I"⟩
abbrev cX1_secondOfMinute : ByteArray := prog_3_method_9_code
def yX1_secondOfMinute : MethodName := ⟨RX1, "secondOfMinute", "()I"⟩
abbrev cX1_momentSecond : ByteArray := prog_3_method_10_code
def yX1_momentSecond : MethodName := ⟨RX1, "momentSecond", "()J"⟩
abbrev cX1_isAhead : ByteArray := prog_3_method_11_code
def yX1_isAhead : MethodName := ⟨RX1, "isAhead", "(LMomentdesk$Local;)Z"⟩
abbrev cX1_isAlike : ByteArray := prog_3_method_12_code
def yX1_isAlike : MethodName := ⟨RX1, "isAlike", "(LMomentdesk$Local;)Z"⟩
abbrev cX1_isSame : ByteArray := prog_3_method_13_code
def yX1_isSame : MethodName := ⟨RX1, "isSame", "(LMomentdesk$Local;)Z"⟩
abbrev cX1_momentOrder : ByteArray := prog_3_method_14_code
def yX1_momentOrder : MethodName := ⟨RX1, "momentOrder", "(LMomentdesk$Local;)I"⟩
abbrev cX1_orderTo : ByteArray := prog_3_method_15_code
def yX1_orderTo : MethodName := ⟨RX1, "orderTo", "(LMomentdesk$Local;)I"⟩
def RX2 : String := "Momentdesk"
def TX2 : u_T := fun k => match k with
  | 0 => ("Momentdesk", "offsets", "[I", true)
  | 1 => ("Momentdesk", "numbers", "[J", true)
  | 2 => ("Momentdesk", "dates", "[LMomentdesk$Local;", true)
  | 3 => ("Momentdesk", "clocks", "[LMomentdesk$Local;", true)
  | 4 => ("Momentdesk", "triedDated", "LMomentdesk$Local;", true)
  | 5 => ("Momentdesk", "triedClock", "LMomentdesk$Local;", true)
  | 6 => ("Momentdesk", "knocks", "I", false)
  | _ => ("Momentdesk", "refusals", "I", false)
def tyX2 : Nat → FieldType := fun k => match k with
  | 0 => .array .int
  | 1 => .array .long
  | 2 => .array (.object "Momentdesk$Local")
  | 3 => .array (.object "Momentdesk$Local")
  | 4 => .object "Momentdesk$Local"
  | 5 => .object "Momentdesk$Local"
  | 6 => .int
  | _ => .int
theorem nmX2 : ∀ a, a < 8 → ∀ b, b < 8 → a ≠ b → (TX2 a).2.1 ≠ (TX2 b).2.1 := by decide +kernel
theorem tyX2_ok : ∀ k, k < 8 → parseFieldDescriptor (TX2 k).2.2.1 = some (tyX2 k) := by decide +kernel
abbrev cX2_init : ByteArray := prog_1_method_1_code
def yX2_init : MethodName := ⟨RX2, "<init>", "()V"⟩
abbrev cX2_offset : ByteArray := prog_1_method_2_code
def yX2_offset : MethodName := ⟨RX2, "offset", "(II)I"⟩
abbrev cX2_offsetOf : ByteArray := prog_1_method_3_code
def yX2_offsetOf : MethodName := ⟨RX2, "offsetOf", "(IIII)I"⟩
abbrev cX2_seconds : ByteArray := prog_1_method_4_code
def yX2_seconds : MethodName := ⟨RX2, "seconds", "(I)I"⟩
abbrev cX2_orderOffset : ByteArray := prog_1_method_5_code
def yX2_orderOffset : MethodName := ⟨RX2, "orderOffset", "(II)I"⟩
abbrev cX2_moment : ByteArray := prog_1_method_6_code
def yX2_moment : MethodName := ⟨RX2, "moment", "(III)I"⟩
abbrev cX2_milli : ByteArray := prog_1_method_7_code
def yX2_milli : MethodName := ⟨RX2, "milli", "(III)I"⟩
abbrev cX2_move : ByteArray := prog_1_method_8_code
def yX2_move : MethodName := ⟨RX2, "move", "(IIIZ)I"⟩
abbrev cX2_momentOf : ByteArray := prog_1_method_9_code
def yX2_momentOf : MethodName := ⟨RX2, "momentOf", "(II)I"⟩
abbrev cX2_ofMoment : ByteArray := prog_1_method_10_code
def yX2_ofMoment : MethodName := ⟨RX2, "ofMoment", "(IZ)I"⟩
abbrev cX2_millis : ByteArray := prog_1_method_11_code
def yX2_millis : MethodName := ⟨RX2, "millis", "(I)Ljava/lang/String;"⟩
abbrev cX2_orderMoment : ByteArray := prog_1_method_12_code
def yX2_orderMoment : MethodName := ⟨RX2, "orderMoment", "(II)I"⟩
abbrev cX2_isMoment : ByteArray := prog_1_method_13_code
def yX2_isMoment : MethodName := ⟨RX2, "isMoment", "(III)Z"⟩
abbrev cX2_copyMoment : ByteArray := prog_1_method_14_code
def yX2_copyMoment : MethodName := ⟨RX2, "copyMoment", "(II)I"⟩
abbrev cX2_date : ByteArray := prog_1_method_15_code
def yX2_date : MethodName := ⟨RX2, "date", "(IIIIII)I"⟩
abbrev cX2_dateOf : ByteArray := prog_1_method_16_code
def yX2_dateOf : MethodName := ⟨RX2, "dateOf", "(III)I"⟩
abbrev cX2_moveDate : ByteArray := prog_1_method_17_code
def yX2_moveDate : MethodName := ⟨RX2, "moveDate", "(IIIZ)I"⟩
abbrev cX2_set : ByteArray := prog_1_method_18_code
def yX2_set : MethodName := ⟨RX2, "set", "(III)I"⟩
abbrev cX2_anew : ByteArray := prog_1_method_19_code
def yX2_anew : MethodName := ⟨RX2, "anew", "(IIZ)I"⟩
abbrev cX2_copy : ByteArray := prog_1_method_20_code
def yX2_copy : MethodName := ⟨RX2, "copy", "(II)I"⟩
abbrev cX2_ofDate : ByteArray := prog_1_method_21_code
def yX2_ofDate : MethodName := ⟨RX2, "ofDate", "(II)I"⟩
abbrev cX2_orderDate : ByteArray := prog_1_method_22_code
def yX2_orderDate : MethodName := ⟨RX2, "orderDate", "(II)I"⟩
abbrev cX2_isDate : ByteArray := prog_1_method_23_code
def yX2_isDate : MethodName := ⟨RX2, "isDate", "(III)Z"⟩
abbrev cX2_clock : ByteArray := prog_1_method_24_code
def yX2_clock : MethodName := ⟨RX2, "clock", "(IIII)I"⟩
abbrev cX2_clockOf : ByteArray := prog_1_method_25_code
def yX2_clockOf : MethodName := ⟨RX2, "clockOf", "(II)I"⟩
abbrev cX2_strike : ByteArray := prog_1_method_26_code
def yX2_strike : MethodName := ⟨RX2, "strike", "(II)I"⟩
abbrev cX2_moveClock : ByteArray := prog_1_method_27_code
def yX2_moveClock : MethodName := ⟨RX2, "moveClock", "(IIIZ)I"⟩
abbrev cX2_anewClock : ByteArray := prog_1_method_28_code
def yX2_anewClock : MethodName := ⟨RX2, "anewClock", "(IIZ)I"⟩
abbrev cX2_copyClock : ByteArray := prog_1_method_29_code
def yX2_copyClock : MethodName := ⟨RX2, "copyClock", "(II)I"⟩
abbrev cX2_ofClock : ByteArray := prog_1_method_30_code
def yX2_ofClock : MethodName := ⟨RX2, "ofClock", "(II)I"⟩
abbrev cX2_orderClock : ByteArray := prog_1_method_31_code
def yX2_orderClock : MethodName := ⟨RX2, "orderClock", "(II)I"⟩
abbrev cX2_isClock : ByteArray := prog_1_method_32_code
def yX2_isClock : MethodName := ⟨RX2, "isClock", "(III)Z"⟩
abbrev cX2_knock : ByteArray := prog_1_method_33_code
def yX2_knock : MethodName := ⟨RX2, "knock", "()I"⟩
abbrev cX2_house : ByteArray := prog_1_method_34_code
def yX2_house : MethodName := ⟨RX2, "house", "(I)I"⟩
abbrev cX2_isSound : ByteArray := prog_1_method_35_code
def yX2_isSound : MethodName := ⟨RX2, "isSound", "()Z"⟩
abbrev cX2_digest : ByteArray := prog_1_method_36_code
def yX2_digest : MethodName := ⟨RX2, "digest", "()J"⟩
abbrev cX2_requireOne : ByteArray := prog_1_method_37_code
def yX2_requireOne : MethodName := ⟨RX2, "requireOne", "(II)V"⟩
abbrev cX2_requireWithin : ByteArray := prog_1_method_38_code
def yX2_requireWithin : MethodName := ⟨RX2, "requireWithin", "(III)V"⟩
abbrev cX2_isWithin : ByteArray := prog_1_method_39_code
def yX2_isWithin : MethodName := ⟨RX2, "isWithin", "(JJJ)Z"⟩
abbrev cX2_at : ByteArray := prog_1_method_40_code
def yX2_at : MethodName := ⟨RX2, "at", "([LMomentdesk$Local;I)LMomentdesk$Local;"⟩
abbrev cX2_signed : ByteArray := prog_1_method_41_code
def yX2_signed : MethodName := ⟨RX2, "signed", "(IZ)J"⟩
abbrev cX2_compared : ByteArray := prog_1_method_42_code
def yX2_compared : MethodName := ⟨RX2, "compared", "(JJ)I"⟩
abbrev cX2_refused : ByteArray := prog_1_method_43_code
def yX2_refused : MethodName := ⟨RX2, "refused", "()I"⟩
abbrev cX2_putNumber : ByteArray := prog_1_method_44_code
def yX2_putNumber : MethodName := ⟨RX2, "putNumber", "(IJ)I"⟩
abbrev cX2_putLocal : ByteArray := prog_1_method_45_code
def yX2_putLocal : MethodName := ⟨RX2, "putLocal", "(LMomentdesk$Local;JII)I"⟩
abbrev cX2_putClock : ByteArray := prog_1_method_46_code
def yX2_putClock : MethodName := ⟨RX2, "putClock", "(LMomentdesk$Local;JII)I"⟩
abbrev cX2_secondOf : ByteArray := prog_1_method_47_code
def yX2_secondOf : MethodName := ⟨RX2, "secondOf", "(J)J"⟩
abbrev cX2_nanoOf : ByteArray := prog_1_method_48_code
def yX2_nanoOf : MethodName := ⟨RX2, "nanoOf", "(J)I"⟩
abbrev cX2_numberOf : ByteArray := prog_1_method_49_code
def yX2_numberOf : MethodName := ⟨RX2, "numberOf", "(LMomentdesk$Local;)J"⟩
abbrev cX2_textOf : ByteArray := prog_1_method_50_code
def yX2_textOf : MethodName := ⟨RX2, "textOf", "(J)Ljava/lang/String;"⟩
abbrev cX2_firstMoment : ByteArray := prog_1_method_51_code
def yX2_firstMoment : MethodName := ⟨RX2, "firstMoment", "()I"⟩
abbrev cX2_secondsOn : ByteArray := prog_1_method_52_code
def yX2_secondsOn : MethodName := ⟨RX2, "secondsOn", "(LMomentdesk$Local;IJ)J"⟩
abbrev cX2_nanoOn : ByteArray := prog_1_method_53_code
def yX2_nanoOn : MethodName := ⟨RX2, "nanoOn", "(LMomentdesk$Local;IJ)I"⟩
abbrev cX2_putMonths : ByteArray := prog_1_method_54_code
def yX2_putMonths : MethodName := ⟨RX2, "putMonths", "(LMomentdesk$Local;J)I"⟩
abbrev cX2_putDay : ByteArray := prog_1_method_55_code
def yX2_putDay : MethodName := ⟨RX2, "putDay", "(LMomentdesk$Local;I)I"⟩
abbrev cX2_setOfDay : ByteArray := prog_1_method_56_code
def yX2_setOfDay : MethodName := ⟨RX2, "setOfDay", "(LMomentdesk$Local;II)I"⟩
abbrev cX2_setOfTime : ByteArray := prog_1_method_57_code
def yX2_setOfTime : MethodName := ⟨RX2, "setOfTime", "(LMomentdesk$Local;II)I"⟩
abbrev cX2_setPart : ByteArray := prog_1_method_58_code
def yX2_setPart : MethodName := ⟨RX2, "setPart", "(LMomentdesk$Local;IIIJ)I"⟩
abbrev cX2_datePart : ByteArray := prog_1_method_59_code
def yX2_datePart : MethodName := ⟨RX2, "datePart", "(LMomentdesk$Local;I)I"⟩
abbrev cX2_clockPart : ByteArray := prog_1_method_60_code
def yX2_clockPart : MethodName := ⟨RX2, "clockPart", "(LMomentdesk$Local;I)I"⟩
abbrev cX2_isSo : ByteArray := prog_1_method_61_code
def yX2_isSo : MethodName := ⟨RX2, "isSo", "(LMomentdesk$Local;LMomentdesk$Local;I)Z"⟩
abbrev cX2_firstDated : ByteArray := prog_1_method_62_code
def yX2_firstDated : MethodName := ⟨RX2, "firstDated", "()I"⟩
abbrev cX2_areMomentsSound : ByteArray := prog_1_method_63_code
def yX2_areMomentsSound : MethodName := ⟨RX2, "areMomentsSound", "()Z"⟩
abbrev cX2_areDatesToldAnewSound : ByteArray := prog_1_method_64_code
def yX2_areDatesToldAnewSound : MethodName := ⟨RX2, "areDatesToldAnewSound", "()Z"⟩
abbrev cX2_isToldAnewSound : ByteArray := prog_1_method_65_code
def yX2_isToldAnewSound : MethodName := ⟨RX2, "isToldAnewSound", "(LMomentdesk$Local;I)Z"⟩
abbrev cX2_arePairsSound : ByteArray := prog_1_method_66_code
def yX2_arePairsSound : MethodName := ⟨RX2, "arePairsSound", "()Z"⟩
abbrev cX2_isPairSound : ByteArray := prog_1_method_67_code
def yX2_isPairSound : MethodName := ⟨RX2, "isPairSound", "(LMomentdesk$Local;LMomentdesk$Local;)Z"⟩
abbrev cX2_areStrikesSound : ByteArray := prog_1_method_68_code
def yX2_areStrikesSound : MethodName := ⟨RX2, "areStrikesSound", "()Z"⟩
abbrev cX2_added : ByteArray := prog_1_method_69_code
def yX2_added : MethodName := ⟨RX2, "added", "(JJ)J"⟩
abbrev cX2_withOffsets : ByteArray := prog_1_method_70_code
def yX2_withOffsets : MethodName := ⟨RX2, "withOffsets", "(J)J"⟩
abbrev cX2_withMoments : ByteArray := prog_1_method_71_code
def yX2_withMoments : MethodName := ⟨RX2, "withMoments", "(J)J"⟩
abbrev cX2_withDates : ByteArray := prog_1_method_72_code
def yX2_withDates : MethodName := ⟨RX2, "withDates", "(J)J"⟩
abbrev cX2_withClocks : ByteArray := prog_1_method_73_code
def yX2_withClocks : MethodName := ⟨RX2, "withClocks", "(J)J"⟩
abbrev cX2_withDatePairs : ByteArray := prog_1_method_74_code
def yX2_withDatePairs : MethodName := ⟨RX2, "withDatePairs", "(J)J"⟩
abbrev cX2_withClockPairs : ByteArray := prog_1_method_75_code
def yX2_withClockPairs : MethodName := ⟨RX2, "withClockPairs", "(J)J"⟩
abbrev cX2_withHouse : ByteArray := prog_1_method_76_code
def yX2_withHouse : MethodName := ⟨RX2, "withHouse", "(J)J"⟩
def RX3 : String := "MomentdeskLaw$Out"
def TX3 : u_T := fun k => match k with
  | 0 => ("MomentdeskLaw$Out", "n", "J", false)
  | _ => ("MomentdeskLaw$Out", "s", "Ljava/lang/String;", false)
def tyX3 : Nat → FieldType := fun k => match k with
  | 0 => .long
  | _ => .object "java/lang/String"
theorem nmX3 : ∀ a, a < 2 → ∀ b, b < 2 → a ≠ b → (TX3 a).2.1 ≠ (TX3 b).2.1 := by decide +kernel
theorem tyX3_ok : ∀ k, k < 2 → parseFieldDescriptor (TX3 k).2.2.1 = some (tyX3 k) := by decide +kernel
abbrev cX3_init : ByteArray := prog_5_method_1_code
def yX3_init : MethodName := ⟨RX3, "<init>", "()V"⟩
def RX4 : String := "MomentdeskModel"
def TX4 : u_T := fun k => match k with
  | 0 => ("MomentdeskModel", "thrown", "I", false)
  | 1 => ("MomentdeskModel", "knocks", "I", false)
  | 2 => ("MomentdeskModel", "refusals", "I", false)
  | 3 => ("MomentdeskModel", "offsets", "[I", true)
  | 4 => ("MomentdeskModel", "moments", "[J", true)
  | 5 => ("MomentdeskModel", "days", "[I", true)
  | 6 => ("MomentdeskModel", "seconds", "[I", true)
  | 7 => ("MomentdeskModel", "nanos", "[I", true)
  | _ => ("MomentdeskModel", "owns", "[I", true)
def tyX4 : Nat → FieldType := fun k => match k with
  | 0 => .int
  | 1 => .int
  | 2 => .int
  | 3 => .array .int
  | 4 => .array .long
  | 5 => .array .int
  | 6 => .array .int
  | 7 => .array .int
  | _ => .array .int
theorem nmX4 : ∀ a, a < 9 → ∀ b, b < 9 → a ≠ b → (TX4 a).2.1 ≠ (TX4 b).2.1 := by decide +kernel
theorem tyX4_ok : ∀ k, k < 9 → parseFieldDescriptor (TX4 k).2.2.1 = some (tyX4 k) := by decide +kernel
abbrev cX4_init : ByteArray := prog_6_method_1_code
def yX4_init : MethodName := ⟨RX4, "<init>", "()V"⟩
abbrev cX4_thrown : ByteArray := prog_6_method_2_code
def yX4_thrown : MethodName := ⟨RX4, "thrown", "()I"⟩
abbrev cX4_isIn : ByteArray := prog_6_method_3_code
def yX4_isIn : MethodName := ⟨RX4, "isIn", "(JJJ)Z"⟩
abbrev cX4_one : ByteArray := prog_6_method_4_code
def yX4_one : MethodName := ⟨RX4, "one", "(Z)I"⟩
abbrev cX4_isStopped : ByteArray := prog_6_method_5_code
def yX4_isStopped : MethodName := ⟨RX4, "isStopped", "(ZZ)Z"⟩
abbrev cX4_no : ByteArray := prog_6_method_6_code
def yX4_no : MethodName := ⟨RX4, "no", "()I"⟩
abbrev cX4_isNone : ByteArray := prog_6_method_7_code
def yX4_isNone : MethodName := ⟨RX4, "isNone", "(I)Z"⟩
abbrev cX4_isNoClock : ByteArray := prog_6_method_8_code
def yX4_isNoClock : MethodName := ⟨RX4, "isNoClock", "(I)Z"⟩
abbrev cX4_isLeap : ByteArray := prog_6_method_9_code
def yX4_isLeap : MethodName := ⟨RX4, "isLeap", "(I)Z"⟩
abbrev cX4_daysOf : ByteArray := prog_6_method_10_code
def yX4_daysOf : MethodName := ⟨RX4, "daysOf", "(II)I"⟩
abbrev cX4_daysOf_ : ByteArray := prog_6_method_11_code
def yX4_daysOf_ : MethodName := ⟨RX4, "daysOf", "(I)I"⟩
abbrev cX4_firstOf : ByteArray := prog_6_method_12_code
def yX4_firstOf : MethodName := ⟨RX4, "firstOf", "(I)I"⟩
abbrev cX4_dayOf : ByteArray := prog_6_method_13_code
def yX4_dayOf : MethodName := ⟨RX4, "dayOf", "(III)I"⟩
abbrev cX4_yearOf : ByteArray := prog_6_method_14_code
def yX4_yearOf : MethodName := ⟨RX4, "yearOf", "(I)I"⟩
abbrev cX4_parts : ByteArray := prog_6_method_15_code
def yX4_parts : MethodName := ⟨RX4, "parts", "(I)[I"⟩
abbrev cX4_isDay : ByteArray := prog_6_method_16_code
def yX4_isDay : MethodName := ⟨RX4, "isDay", "(J)Z"⟩
abbrev cX4_offset : ByteArray := prog_6_method_17_code
def yX4_offset : MethodName := ⟨RX4, "offset", "(II)I"⟩
abbrev cX4_offsetOf : ByteArray := prog_6_method_18_code
def yX4_offsetOf : MethodName := ⟨RX4, "offsetOf", "(IIII)I"⟩
abbrev cX4_seconds : ByteArray := prog_6_method_19_code
def yX4_seconds : MethodName := ⟨RX4, "seconds", "(I)I"⟩
abbrev cX4_order : ByteArray := prog_6_method_20_code
def yX4_order : MethodName := ⟨RX4, "order", "(JJ)I"⟩
abbrev cX4_orderOffset : ByteArray := prog_6_method_21_code
def yX4_orderOffset : MethodName := ⟨RX4, "orderOffset", "(II)I"⟩
abbrev cX4_whole : ByteArray := prog_6_method_22_code
def yX4_whole : MethodName := ⟨RX4, "whole", "(JJ)J"⟩
abbrev cX4_rest : ByteArray := prog_6_method_23_code
def yX4_rest : MethodName := ⟨RX4, "rest", "(JJ)I"⟩
abbrev cX4_become : ByteArray := prog_6_method_24_code
def yX4_become : MethodName := ⟨RX4, "become", "(IJ)I"⟩
abbrev cX4_moment : ByteArray := prog_6_method_25_code
def yX4_moment : MethodName := ⟨RX4, "moment", "(III)I"⟩
abbrev cX4_milli : ByteArray := prog_6_method_26_code
def yX4_milli : MethodName := ⟨RX4, "milli", "(III)I"⟩
abbrev cX4_move : ByteArray := prog_6_method_27_code
def yX4_move : MethodName := ⟨RX4, "move", "(IIIZ)I"⟩
abbrev cX4_number : ByteArray := prog_6_method_28_code
def yX4_number : MethodName := ⟨RX4, "number", "(I)J"⟩
abbrev cX4_momentOf : ByteArray := prog_6_method_29_code
def yX4_momentOf : MethodName := ⟨RX4, "momentOf", "(II)I"⟩
abbrev cX4_copyMoment : ByteArray := prog_6_method_30_code
def yX4_copyMoment : MethodName := ⟨RX4, "copyMoment", "(II)I"⟩
abbrev cX4_ofMoment : ByteArray := prog_6_method_31_code
def yX4_ofMoment : MethodName := ⟨RX4, "ofMoment", "(IZ)I"⟩
abbrev cX4_millis : ByteArray := prog_6_method_32_code
def yX4_millis : MethodName := ⟨RX4, "millis", "(I)Ljava/lang/String;"⟩
abbrev cX4_orderMoment : ByteArray := prog_6_method_33_code
def yX4_orderMoment : MethodName := ⟨RX4, "orderMoment", "(II)I"⟩
abbrev cX4_isMoment : ByteArray := prog_6_method_34_code
def yX4_isMoment : MethodName := ⟨RX4, "isMoment", "(III)Z"⟩
abbrev cX4_put : ByteArray := prog_6_method_35_code
def yX4_put : MethodName := ⟨RX4, "put", "(IIIII)I"⟩
abbrev cX4_put_ : ByteArray := prog_6_method_36_code
def yX4_put_ : MethodName := ⟨RX4, "put", "(IJJII)I"⟩
abbrev cX4_isTime : ByteArray := prog_6_method_37_code
def yX4_isTime : MethodName := ⟨RX4, "isTime", "(II)Z"⟩
abbrev cX4_isThere : ByteArray := prog_6_method_38_code
def yX4_isThere : MethodName := ⟨RX4, "isThere", "(III)Z"⟩
abbrev cX4_date : ByteArray := prog_6_method_39_code
def yX4_date : MethodName := ⟨RX4, "date", "(IIIIII)I"⟩
abbrev cX4_dateOf : ByteArray := prog_6_method_40_code
def yX4_dateOf : MethodName := ⟨RX4, "dateOf", "(III)I"⟩
abbrev cX4_moveMonths : ByteArray := prog_6_method_41_code
def yX4_moveMonths : MethodName := ⟨RX4, "moveMonths", "(IJ)I"⟩
abbrev cX4_putDay : ByteArray := prog_6_method_42_code
def yX4_putDay : MethodName := ⟨RX4, "putDay", "(IIII)I"⟩
abbrev cX4_secondsOf : ByteArray := prog_6_method_43_code
def yX4_secondsOf : MethodName := ⟨RX4, "secondsOf", "(I)I"⟩
abbrev cX4_moveDate : ByteArray := prog_6_method_44_code
def yX4_moveDate : MethodName := ⟨RX4, "moveDate", "(IIIZ)I"⟩
abbrev cX4_set : ByteArray := prog_6_method_45_code
def yX4_set : MethodName := ⟨RX4, "set", "(III)I"⟩
abbrev cX4_anew : ByteArray := prog_6_method_46_code
def yX4_anew : MethodName := ⟨RX4, "anew", "(IIZ)I"⟩
abbrev cX4_copy : ByteArray := prog_6_method_47_code
def yX4_copy : MethodName := ⟨RX4, "copy", "(II)I"⟩
abbrev cX4_told : ByteArray := prog_6_method_48_code
def yX4_told : MethodName := ⟨RX4, "told", "(II)I"⟩
abbrev cX4_ofDate : ByteArray := prog_6_method_49_code
def yX4_ofDate : MethodName := ⟨RX4, "ofDate", "(II)I"⟩
abbrev cX4_ordered : ByteArray := prog_6_method_50_code
def yX4_ordered : MethodName := ⟨RX4, "ordered", "(II)I"⟩
abbrev cX4_is : ByteArray := prog_6_method_51_code
def yX4_is : MethodName := ⟨RX4, "is", "(III)Z"⟩
abbrev cX4_orderDate : ByteArray := prog_6_method_52_code
def yX4_orderDate : MethodName := ⟨RX4, "orderDate", "(II)I"⟩
abbrev cX4_isDate : ByteArray := prog_6_method_53_code
def yX4_isDate : MethodName := ⟨RX4, "isDate", "(III)Z"⟩
abbrev cX4_ofSecond : ByteArray := prog_6_method_54_code
def yX4_ofSecond : MethodName := ⟨RX4, "ofSecond", "(I)I"⟩
abbrev cX4_turn : ByteArray := prog_6_method_55_code
def yX4_turn : MethodName := ⟨RX4, "turn", "(IJII)I"⟩
abbrev cX4_clock : ByteArray := prog_6_method_56_code
def yX4_clock : MethodName := ⟨RX4, "clock", "(IIII)I"⟩
abbrev cX4_clockOf : ByteArray := prog_6_method_57_code
def yX4_clockOf : MethodName := ⟨RX4, "clockOf", "(II)I"⟩
abbrev cX4_copyClock : ByteArray := prog_6_method_58_code
def yX4_copyClock : MethodName := ⟨RX4, "copyClock", "(II)I"⟩
abbrev cX4_strike : ByteArray := prog_6_method_59_code
def yX4_strike : MethodName := ⟨RX4, "strike", "(II)I"⟩
abbrev cX4_moveClock : ByteArray := prog_6_method_60_code
def yX4_moveClock : MethodName := ⟨RX4, "moveClock", "(IIIZ)I"⟩
abbrev cX4_anewClock : ByteArray := prog_6_method_61_code
def yX4_anewClock : MethodName := ⟨RX4, "anewClock", "(IIZ)I"⟩
abbrev cX4_clockTold : ByteArray := prog_6_method_62_code
def yX4_clockTold : MethodName := ⟨RX4, "clockTold", "(II)I"⟩
abbrev cX4_ofClock : ByteArray := prog_6_method_63_code
def yX4_ofClock : MethodName := ⟨RX4, "ofClock", "(II)I"⟩
abbrev cX4_orderClock : ByteArray := prog_6_method_64_code
def yX4_orderClock : MethodName := ⟨RX4, "orderClock", "(II)I"⟩
abbrev cX4_isClock : ByteArray := prog_6_method_65_code
def yX4_isClock : MethodName := ⟨RX4, "isClock", "(III)Z"⟩
abbrev cX4_knock : ByteArray := prog_6_method_66_code
def yX4_knock : MethodName := ⟨RX4, "knock", "()I"⟩
abbrev cX4_houseTold : ByteArray := prog_6_method_67_code
def yX4_houseTold : MethodName := ⟨RX4, "houseTold", "(I)I"⟩
abbrev cX4_house : ByteArray := prog_6_method_68_code
def yX4_house : MethodName := ⟨RX4, "house", "(I)I"⟩
abbrev cX4_isSound : ByteArray := prog_6_method_69_code
def yX4_isSound : MethodName := ⟨RX4, "isSound", "()Z"⟩
abbrev cX4_digest : ByteArray := prog_6_method_70_code
def yX4_digest : MethodName := ⟨RX4, "digest", "()J"⟩
def RJ5 : String := "java/lang/AbstractStringBuilder"
def RJ9 : String := "java/lang/Math"
abbrev cJ9_floorDiv_f86c9 : ByteArray := prog_15_method_49_code
def yJ9_floorDiv_f86c9 : MethodName := ⟨RJ9, "floorDiv", "(JJ)J"⟩
abbrev cJ9_floorMod_7cf53 : ByteArray := prog_15_method_50_code
def yJ9_floorMod_7cf53 : MethodName := ⟨RJ9, "floorMod", "(II)I"⟩
abbrev cJ9_floorMod_f86c9 : ByteArray := prog_15_method_52_code
def yJ9_floorMod_f86c9 : MethodName := ⟨RJ9, "floorMod", "(JJ)J"⟩
abbrev cJ9_min_7cf53 : ByteArray := prog_15_method_69_code
def yJ9_min_7cf53 : MethodName := ⟨RJ9, "min", "(II)I"⟩
def RJ0 : String := "java/lang/String"
def TJ0 : u_T := fun k => match k with
  | 0 => ("java/lang/String", "value", "[B", true)
  | 1 => ("java/lang/String", "coder", "B", true)
  | 2 => ("java/lang/String", "hash", "I", false)
  | _ => ("java/lang/String", "hashIsZero", "Z", false)
def tyJ0 : Nat → FieldType := fun k => match k with
  | 0 => .array .byte
  | 1 => .byte
  | 2 => .int
  | _ => .boolean
theorem nmJ0 : ∀ a, a < 4 → ∀ b, b < 4 → a ≠ b → (TJ0 a).2.1 ≠ (TJ0 b).2.1 := by decide +kernel
theorem tyJ0_ok : ∀ k, k < 4 → parseFieldDescriptor (TJ0 k).2.2.1 = some (tyJ0 k) := by decide +kernel
def RJ4 : String := "java/lang/StringBuilder"
def TJ4 : u_T := fun k => match k with
  | 0 => ("java/lang/AbstractStringBuilder", "value", "[B", false)
  | 1 => ("java/lang/AbstractStringBuilder", "coder", "B", false)
  | 2 => ("java/lang/AbstractStringBuilder", "maybeLatin1", "Z", false)
  | _ => ("java/lang/AbstractStringBuilder", "count", "I", false)
def tyJ4 : Nat → FieldType := fun k => match k with
  | 0 => .array .byte
  | 1 => .byte
  | 2 => .boolean
  | _ => .int
theorem nmJ4 : ∀ a, a < 4 → ∀ b, b < 4 → a ≠ b → (TJ4 a).2.1 ≠ (TJ4 b).2.1 := by decide +kernel
theorem tyJ4_ok : ∀ k, k < 4 → parseFieldDescriptor (TJ4 k).2.2.1 = some (tyJ4 k) := by decide +kernel
def RL : String := "MomentdeskLaw"
abbrev cL_offset : ByteArray := method_2_code
def yL_offset : MethodName := ⟨RL, "offset", "(LMomentdesk;IILMomentdeskLaw$Out;)I"⟩
abbrev cL_offsetOf : ByteArray := method_3_code
def yL_offsetOf : MethodName := ⟨RL, "offsetOf", "(LMomentdesk;IIIILMomentdeskLaw$Out;)I"⟩
abbrev cL_seconds : ByteArray := method_4_code
def yL_seconds : MethodName := ⟨RL, "seconds", "(LMomentdesk;ILMomentdeskLaw$Out;)I"⟩
abbrev cL_orderOffset : ByteArray := method_5_code
def yL_orderOffset : MethodName := ⟨RL, "orderOffset", "(LMomentdesk;IILMomentdeskLaw$Out;)I"⟩
abbrev cL_moment : ByteArray := method_6_code
def yL_moment : MethodName := ⟨RL, "moment", "(LMomentdesk;IIILMomentdeskLaw$Out;)I"⟩
abbrev cL_milli : ByteArray := method_7_code
def yL_milli : MethodName := ⟨RL, "milli", "(LMomentdesk;IIILMomentdeskLaw$Out;)I"⟩
abbrev cL_move : ByteArray := method_8_code
def yL_move : MethodName := ⟨RL, "move", "(LMomentdesk;IIIZLMomentdeskLaw$Out;)I"⟩
abbrev cL_momentOf : ByteArray := method_9_code
def yL_momentOf : MethodName := ⟨RL, "momentOf", "(LMomentdesk;IILMomentdeskLaw$Out;)I"⟩
abbrev cL_ofMoment : ByteArray := method_10_code
def yL_ofMoment : MethodName := ⟨RL, "ofMoment", "(LMomentdesk;IZLMomentdeskLaw$Out;)I"⟩
abbrev cL_millis : ByteArray := method_11_code
def yL_millis : MethodName := ⟨RL, "millis", "(LMomentdesk;ILMomentdeskLaw$Out;)I"⟩
abbrev cL_orderMoment : ByteArray := method_12_code
def yL_orderMoment : MethodName := ⟨RL, "orderMoment", "(LMomentdesk;IILMomentdeskLaw$Out;)I"⟩
abbrev cL_isMoment : ByteArray := method_13_code
def yL_isMoment : MethodName := ⟨RL, "isMoment", "(LMomentdesk;IIILMomentdeskLaw$Out;)I"⟩
abbrev cL_copyMoment : ByteArray := method_14_code
def yL_copyMoment : MethodName := ⟨RL, "copyMoment", "(LMomentdesk;IILMomentdeskLaw$Out;)I"⟩
abbrev cL_date : ByteArray := method_15_code
def yL_date : MethodName := ⟨RL, "date", "(LMomentdesk;IIIIIILMomentdeskLaw$Out;)I"⟩
abbrev cL_dateOf : ByteArray := method_16_code
def yL_dateOf : MethodName := ⟨RL, "dateOf", "(LMomentdesk;IIILMomentdeskLaw$Out;)I"⟩
abbrev cL_moveDate : ByteArray := method_17_code
def yL_moveDate : MethodName := ⟨RL, "moveDate", "(LMomentdesk;IIIZLMomentdeskLaw$Out;)I"⟩
abbrev cL_set : ByteArray := method_18_code
def yL_set : MethodName := ⟨RL, "set", "(LMomentdesk;IIILMomentdeskLaw$Out;)I"⟩
abbrev cL_anew : ByteArray := method_19_code
def yL_anew : MethodName := ⟨RL, "anew", "(LMomentdesk;IIZLMomentdeskLaw$Out;)I"⟩
abbrev cL_copy : ByteArray := method_20_code
def yL_copy : MethodName := ⟨RL, "copy", "(LMomentdesk;IILMomentdeskLaw$Out;)I"⟩
abbrev cL_ofDate : ByteArray := method_21_code
def yL_ofDate : MethodName := ⟨RL, "ofDate", "(LMomentdesk;IILMomentdeskLaw$Out;)I"⟩
abbrev cL_orderDate : ByteArray := method_22_code
def yL_orderDate : MethodName := ⟨RL, "orderDate", "(LMomentdesk;IILMomentdeskLaw$Out;)I"⟩
abbrev cL_isDate : ByteArray := method_23_code
def yL_isDate : MethodName := ⟨RL, "isDate", "(LMomentdesk;IIILMomentdeskLaw$Out;)I"⟩
abbrev cL_clock : ByteArray := method_24_code
def yL_clock : MethodName := ⟨RL, "clock", "(LMomentdesk;IIIILMomentdeskLaw$Out;)I"⟩
abbrev cL_clockOf : ByteArray := method_25_code
def yL_clockOf : MethodName := ⟨RL, "clockOf", "(LMomentdesk;IILMomentdeskLaw$Out;)I"⟩
abbrev cL_strike : ByteArray := method_26_code
def yL_strike : MethodName := ⟨RL, "strike", "(LMomentdesk;IILMomentdeskLaw$Out;)I"⟩
abbrev cL_moveClock : ByteArray := method_27_code
def yL_moveClock : MethodName := ⟨RL, "moveClock", "(LMomentdesk;IIIZLMomentdeskLaw$Out;)I"⟩
abbrev cL_anewClock : ByteArray := method_28_code
def yL_anewClock : MethodName := ⟨RL, "anewClock", "(LMomentdesk;IIZLMomentdeskLaw$Out;)I"⟩
abbrev cL_copyClock : ByteArray := method_29_code
def yL_copyClock : MethodName := ⟨RL, "copyClock", "(LMomentdesk;IILMomentdeskLaw$Out;)I"⟩
abbrev cL_ofClock : ByteArray := method_30_code
def yL_ofClock : MethodName := ⟨RL, "ofClock", "(LMomentdesk;IILMomentdeskLaw$Out;)I"⟩
abbrev cL_orderClock : ByteArray := method_31_code
def yL_orderClock : MethodName := ⟨RL, "orderClock", "(LMomentdesk;IILMomentdeskLaw$Out;)I"⟩
abbrev cL_isClock : ByteArray := method_32_code
def yL_isClock : MethodName := ⟨RL, "isClock", "(LMomentdesk;IIILMomentdeskLaw$Out;)I"⟩
abbrev cL_house : ByteArray := method_33_code
def yL_house : MethodName := ⟨RL, "house", "(LMomentdesk;ILMomentdeskLaw$Out;)I"⟩
abbrev vwCl : List vw_C := [(RJ0, TJ0, 4), (RJ4, TJ4, 4), (RX1, TX1, 3), (RX2, TX2, 8), (RX3, TX3, 2), (RX4, TX4, 9)]

