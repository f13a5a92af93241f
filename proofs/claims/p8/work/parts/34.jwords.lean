/-! Words and names of the JDK's text methods (printed). -/
def RJ13 : String := "java/lang/Long"
def RJ1 : String := "java/lang/StringLatin1"
def RJ7 : String := "java/util/Arrays"
def RJ8 : String := "jdk/internal/util/ArraysSupport"
abbrev cJ4_init_da8c8 : ByteArray := prog_18_method_1_code
def yJ4_init_da8c8 : MethodName := ⟨RJ4, "<init>", "()V"⟩
abbrev cJ5_init_d00df : ByteArray := prog_7_method_2_code
def yJ5_init_d00df : MethodName := ⟨RJ5, "<init>", "(I)V"⟩
abbrev cJ4_append_cf468 : ByteArray := prog_18_method_14_code
def yJ4_append_cf468 : MethodName := ⟨RJ4, "append", "(C)Ljava/lang/StringBuilder;"⟩
abbrev cJ5_append_3fe6f : ByteArray := prog_7_method_31_code
def yJ5_append_3fe6f : MethodName := ⟨RJ5, "append", "(C)Ljava/lang/AbstractStringBuilder;"⟩
abbrev cJ5_ensureCapacityInternal_d00df : ByteArray := prog_7_method_9_code
def yJ5_ensureCapacityInternal_d00df : MethodName := ⟨RJ5, "ensureCapacityInternal", "(I)V"⟩
abbrev cJ5_newCapacity_0f7a4 : ByteArray := prog_7_method_10_code
def yJ5_newCapacity_0f7a4 : MethodName := ⟨RJ5, "newCapacity", "(I)I"⟩
abbrev cJ8_newLength_cabcc : ByteArray := prog_24_method_27_code
def yJ8_newLength_cabcc : MethodName := ⟨RJ8, "newLength", "(III)I"⟩
abbrev cJ7_copyOf_9075b : ByteArray := prog_23_method_121_code
def yJ7_copyOf_9075b : MethodName := ⟨RJ7, "copyOf", "([BI)[B"⟩
abbrev cJ5_isLatin1_aae02 : ByteArray := prog_7_method_68_code
def yJ5_isLatin1_aae02 : MethodName := ⟨RJ5, "isLatin1", "()Z"⟩
abbrev cJ1_canEncode_fc78d : ByteArray := prog_19_method_3_code
def yJ1_canEncode_fc78d : MethodName := ⟨RJ1, "canEncode", "(C)Z"⟩
abbrev cJ4_reverse_43fcb : ByteArray := prog_18_method_39_code
def yJ4_reverse_43fcb : MethodName := ⟨RJ4, "reverse", "()Ljava/lang/StringBuilder;"⟩
abbrev cJ5_reverse_278bc : ByteArray := prog_7_method_60_code
def yJ5_reverse_278bc : MethodName := ⟨RJ5, "reverse", "()Ljava/lang/AbstractStringBuilder;"⟩
abbrev cJ4_toString_0e30d : ByteArray := prog_18_method_42_code
def yJ4_toString_0e30d : MethodName := ⟨RJ4, "toString", "()Ljava/lang/String;"⟩
abbrev cJ0_init_81219 : ByteArray := prog_17_method_53_code
def yJ0_init_81219 : MethodName := ⟨RJ0, "<init>", "(Ljava/lang/StringBuilder;)V"⟩
abbrev cJ0_init_db425 : ByteArray := prog_17_method_150_code
def yJ0_init_db425 : MethodName := ⟨RJ0, "<init>", "(Ljava/lang/AbstractStringBuilder;Ljava/lang/Void;)V"⟩
abbrev cJ5_getValue_6d5f1 : ByteArray := prog_7_method_64_code
def yJ5_getValue_6d5f1 : MethodName := ⟨RJ5, "getValue", "()[B"⟩
abbrev cJ5_length_8abf5 : ByteArray := prog_7_method_6_code
def yJ5_length_8abf5 : MethodName := ⟨RJ5, "length", "()I"⟩
abbrev cJ4_length_8abf5 : ByteArray := prog_18_method_93_code
def yJ4_length_8abf5 : MethodName := ⟨RJ4, "length", "()I"⟩
abbrev cJ7_copyOfRange_39247 : ByteArray := prog_23_method_132_code
def yJ7_copyOfRange_39247 : MethodName := ⟨RJ7, "copyOfRange", "([BII)[B"⟩
abbrev cJ7_copyOfRangeByte_39247 : ByteArray := prog_23_method_133_code
def yJ7_copyOfRangeByte_39247 : MethodName := ⟨RJ7, "copyOfRangeByte", "([BII)[B"⟩
abbrev cJ7_checkLength_df160 : ByteArray := prog_23_method_131_code
def yJ7_checkLength_df160 : MethodName := ⟨RJ7, "checkLength", "(II)V"⟩
abbrev cJ4_append_15ec4 : ByteArray := prog_18_method_7_code
def yJ4_append_15ec4 : MethodName := ⟨RJ4, "append", "(Ljava/lang/String;)Ljava/lang/StringBuilder;"⟩
abbrev cJ5_append_cf1ce : ByteArray := prog_7_method_22_code
def yJ5_append_cf1ce : MethodName := ⟨RJ5, "append", "(Ljava/lang/String;)Ljava/lang/AbstractStringBuilder;"⟩
abbrev cJ0_length_8abf5 : ByteArray := prog_17_method_54_code
def yJ0_length_8abf5 : MethodName := ⟨RJ0, "length", "()I"⟩
abbrev cJ0_coder_7d493 : ByteArray := prog_17_method_152_code
def yJ0_coder_7d493 : MethodName := ⟨RJ0, "coder", "()B"⟩
abbrev cJ5_putStringAt_47b60 : ByteArray := prog_7_method_73_code
def yJ5_putStringAt_47b60 : MethodName := ⟨RJ5, "putStringAt", "(ILjava/lang/String;)V"⟩
abbrev cJ5_inflateIfNeededFor_a7421 : ByteArray := prog_7_method_71_code
def yJ5_inflateIfNeededFor_a7421 : MethodName := ⟨RJ5, "inflateIfNeededFor", "(Ljava/lang/String;)V"⟩
abbrev cJ0_getBytes_840e7 : ByteArray := prog_17_method_147_code
def yJ0_getBytes_840e7 : MethodName := ⟨RJ0, "getBytes", "([BIB)V"⟩
abbrev cJ4_append_f7089 : ByteArray := prog_18_method_16_code
def yJ4_append_f7089 : MethodName := ⟨RJ4, "append", "(J)Ljava/lang/StringBuilder;"⟩
abbrev cJ5_append_66267 : ByteArray := prog_7_method_33_code
def yJ5_append_66267 : MethodName := ⟨RJ5, "append", "(J)Ljava/lang/AbstractStringBuilder;"⟩
abbrev cJ13_stringSize_95d88 : ByteArray := prog_14_method_15_code
def yJ13_stringSize_95d88 : MethodName := ⟨RJ13, "stringSize", "(J)I"⟩
abbrev cJ13_getChars_11360 : ByteArray := prog_14_method_14_code
def yJ13_getChars_11360 : MethodName := ⟨RJ13, "getChars", "(JI[B)I"⟩
theorem kinJ4 : ∀ w ∈ u_ws RJ4 TJ4 4, w ∈ mW := by
  intro w hw
  obtain ⟨k, hk0, rfl⟩ := List.mem_map.mp (show w ∈ (List.range 4).map (u_lay RJ4 TJ4) from hw)
  have hk := List.mem_range.mp hk0
  clear hk0 hw
  match k, hk with
  | 0, _ => exact mtb_3 (List.mem_of_getElem? (i := 26) rfl) rfl
  | 1, _ => exact mtb_3 (List.mem_of_getElem? (i := 28) rfl) rfl
  | 2, _ => exact mtb_3 (List.mem_of_getElem? (i := 30) rfl) rfl
  | 3, _ => exact mtb_3 (List.mem_of_getElem? (i := 32) rfl) rfl
  | k + 4, h => exact absurd h (by omega)
theorem kinJ0 : ∀ w ∈ u_ws RJ0 TJ0 4, w ∈ mW := by
  intro w hw
  obtain ⟨k, hk0, rfl⟩ := List.mem_map.mp (show w ∈ (List.range 4).map (u_lay RJ0 TJ0) from hw)
  have hk := List.mem_range.mp hk0
  clear hk0 hw
  match k, hk with
  | 0, _ => exact mtb_4 (List.mem_of_getElem? (i := 55) rfl) rfl
  | 1, _ => exact mtb_4 (List.mem_of_getElem? (i := 57) rfl) rfl
  | 2, _ => exact mtb_4 (List.mem_of_getElem? (i := 59) rfl) rfl
  | 3, _ => exact mtb_4 (List.mem_of_getElem? (i := 61) rfl) rfl
  | k + 4, h => exact absurd h (by omega)
set_option maxRecDepth 20000 in
theorem jw_51 : (Cond.initialized RJ4) ∈ mW := mtb_1 (List.mem_of_getElem? (i := 12) rfl) rfl
theorem jt_J4 : (Cond.initialized RJ4) ∈ mW := jw_51
set_option maxRecDepth 20000 in
theorem jw_52 : (Cond.initialized RJ0) ∈ mW := mtb_1 (List.mem_of_getElem? (i := 13) rfl) rfl
theorem jt_J0 : (Cond.initialized RJ0) ∈ mW := jw_52
set_option maxRecDepth 20000 in
theorem jw_524 : (Cond.instantiable RJ4 4) ∈ mW := mtb_3 (List.mem_of_getElem? (i := 5) rfl) rfl
theorem jn_J4 : (Cond.instantiable RJ4 4) ∈ mW := jw_524
set_option maxRecDepth 20000 in
theorem jw_525 : (Cond.methodLink RX2 282 yJ4_init_da8c8) ∈ mW := mtb_3 (List.mem_of_getElem? (i := 6) rfl) rfl
set_option maxRecDepth 20000 in
theorem jw_526 : (Cond.instanceMethod yJ4_init_da8c8) ∈ mW := mtb_3 (List.mem_of_getElem? (i := 7) rfl) rfl
set_option maxRecDepth 20000 in
theorem jw_527 : (Cond.code yJ4_init_da8c8 cJ4_init_da8c8 1 none) ∈ mW := mtb_3 (List.mem_of_getElem? (i := 8) rfl) rfl
theorem ji_X2_282 : mWI RX2 282 yJ4_init_da8c8 cJ4_init_da8c8 1 0 := ⟨jw_525, jw_526, jw_51, jw_527, ⟨by decide +kernel, by decide +kernel⟩, by decide +kernel, rfl⟩
set_option maxRecDepth 20000 in
theorem jw_528 : (Cond.methodLink RJ4 1 yJ5_init_d00df) ∈ mW := mtb_3 (List.mem_of_getElem? (i := 9) rfl) rfl
set_option maxRecDepth 20000 in
theorem jw_50 : (Cond.initialized RJ5) ∈ mW := mtb_1 (List.mem_of_getElem? (i := 11) rfl) rfl
set_option maxRecDepth 20000 in
theorem jw_529 : (Cond.instanceMethod yJ5_init_d00df) ∈ mW := mtb_3 (List.mem_of_getElem? (i := 10) rfl) rfl
set_option maxRecDepth 20000 in
theorem jw_530 : (Cond.code yJ5_init_d00df cJ5_init_d00df 2 none) ∈ mW := mtb_3 (List.mem_of_getElem? (i := 11) rfl) rfl
theorem ji_J4_1 : mWI RJ4 1 yJ5_init_d00df cJ5_init_d00df 2 1 := ⟨jw_528, jw_529, jw_50, jw_530, ⟨by decide +kernel, by decide +kernel⟩, by decide +kernel, rfl⟩
set_option maxRecDepth 20000 in
theorem jw_531 : (Cond.methodLink RJ5 3 Lib.objectInit) ∈ mW := mtb_3 (List.mem_of_getElem? (i := 12) rfl) rfl
theorem job_J5 : (Cond.methodLink RJ5 3 Lib.objectInit) ∈ mW := jw_531
set_option maxRecDepth 20000 in
theorem jw_532 : (Cond.fieldLink RJ5 18 "java/lang/String" "COMPACT_STRINGS" "Z") ∈ mW := mtb_3 (List.mem_of_getElem? (i := 13) rfl) rfl
theorem jfl_J5_18 : (Cond.fieldLink RJ5 18 "java/lang/String" "COMPACT_STRINGS" "Z") ∈ mW := jw_532
set_option maxRecDepth 20000 in
theorem jw_541 : (Cond.fieldLink RJ5 15 "java/lang/AbstractStringBuilder" "value" "[B") ∈ mW := mtb_3 (List.mem_of_getElem? (i := 22) rfl) rfl
theorem jf_J5_15 : mFd RJ5 15 1 0 RJ4 TJ4 4 (.array .byte) := ⟨kinJ4, ⟨_, tyJ4_ok⟩, nmJ4, rfl, by decide, jw_541, by decide +kernel⟩
set_option maxRecDepth 20000 in
theorem jw_542 : (Cond.fieldLink RJ5 22 "java/lang/AbstractStringBuilder" "coder" "B") ∈ mW := mtb_3 (List.mem_of_getElem? (i := 23) rfl) rfl
theorem jf_J5_22 : mFd RJ5 22 1 1 RJ4 TJ4 4 .byte := ⟨kinJ4, ⟨_, tyJ4_ok⟩, nmJ4, rfl, by decide, jw_542, by decide +kernel⟩
set_option maxRecDepth 20000 in
theorem jw_544 : (Cond.fieldLink RJ5 79 "java/lang/AbstractStringBuilder" "count" "I") ∈ mW := mtb_3 (List.mem_of_getElem? (i := 25) rfl) rfl
theorem jf_J5_79 : mFd RJ5 79 1 3 RJ4 TJ4 4 .int := ⟨kinJ4, ⟨_, tyJ4_ok⟩, nmJ4, rfl, by decide, jw_544, by decide +kernel⟩
set_option maxRecDepth 20000 in
theorem jw_554 : (Cond.methodLink RX2 283 Lib.MathLoose.abs_long.x) ∈ mW := mtb_3 (List.mem_of_getElem? (i := 35) rfl) rfl
theorem jl_X2_283 : (Cond.methodLink RX2 283 Lib.MathLoose.abs_long.x) ∈ mW := jw_554
set_option maxRecDepth 20000 in
theorem jw_559 : (Cond.methodLink RX2 290 yJ4_append_cf468) ∈ mW := mtb_3 (List.mem_of_getElem? (i := 40) rfl) rfl
set_option maxRecDepth 20000 in
theorem jw_560 : (Cond.instanceMethod yJ4_append_cf468) ∈ mW := mtb_3 (List.mem_of_getElem? (i := 41) rfl) rfl
set_option maxRecDepth 20000 in
theorem jw_561 : (Cond.selects RJ4 yJ4_append_cf468 yJ4_append_cf468) ∈ mW := mtb_3 (List.mem_of_getElem? (i := 42) rfl) rfl
set_option maxRecDepth 20000 in
theorem jw_562 : (Cond.code yJ4_append_cf468 cJ4_append_cf468 2 (some (.object "java/lang/StringBuilder"))) ∈ mW := mtb_3 (List.mem_of_getElem? (i := 43) rfl) rfl
theorem jv_X2_290 : mWV RX2 290 yJ4_append_cf468 cJ4_append_cf468 2 (some (.object "java/lang/StringBuilder")) 1 := ⟨jw_559, jw_560, jw_561, jw_51, jw_562, ⟨by decide +kernel, by decide +kernel⟩, by decide +kernel⟩
set_option maxRecDepth 20000 in
theorem jw_563 : (Cond.methodLink RJ4 50 yJ5_append_3fe6f) ∈ mW := mtb_3 (List.mem_of_getElem? (i := 44) rfl) rfl
set_option maxRecDepth 20000 in
theorem jw_564 : (Cond.instanceMethod yJ5_append_3fe6f) ∈ mW := mtb_3 (List.mem_of_getElem? (i := 45) rfl) rfl
set_option maxRecDepth 20000 in
theorem jw_1398 : (Cond.sameMethod RJ5 RJ5 "append" "(C)Ljava/lang/AbstractStringBuilder;") ∈ mW := mtb_6 (List.mem_of_getElem? (i := 159) rfl) rfl
set_option maxRecDepth 20000 in
theorem jw_553 : (Cond.superclass RJ4 RJ5) ∈ mW := mtb_3 (List.mem_of_getElem? (i := 34) rfl) rfl
set_option maxRecDepth 20000 in
theorem jw_565 : (Cond.code yJ5_append_3fe6f cJ5_append_3fe6f 2 (some (.object "java/lang/AbstractStringBuilder"))) ∈ mW := mtb_3 (List.mem_of_getElem? (i := 46) rfl) rfl
theorem jsu_J4_50 : mWSU RJ4 50 yJ5_append_3fe6f cJ5_append_3fe6f 2 (some (.object "java/lang/AbstractStringBuilder")) 1 := ⟨jw_563, jw_1398, jw_553, jw_564, jw_50, jw_565, by decide +kernel, by decide +kernel⟩
set_option maxRecDepth 20000 in
theorem jw_566 : (Cond.methodLink RJ5 100 yJ5_ensureCapacityInternal_d00df) ∈ mW := mtb_3 (List.mem_of_getElem? (i := 47) rfl) rfl
set_option maxRecDepth 20000 in
theorem jw_568 : (Cond.instanceMethod yJ5_ensureCapacityInternal_d00df) ∈ mW := mtb_3 (List.mem_of_getElem? (i := 49) rfl) rfl
set_option maxRecDepth 20000 in
theorem jw_1399 : (Cond.sameMethod RJ5 RJ5 "ensureCapacityInternal" "(I)V") ∈ mW := mtb_6 (List.mem_of_getElem? (i := 160) rfl) rfl
set_option maxRecDepth 20000 in
theorem jw_567 : (Cond.privateMethod yJ5_ensureCapacityInternal_d00df) ∈ mW := mtb_3 (List.mem_of_getElem? (i := 48) rfl) rfl
set_option maxRecDepth 20000 in
theorem jw_604 : (Cond.selects RJ4 yJ5_isLatin1_aae02 yJ5_isLatin1_aae02) ∈ mW := mtb_3 (List.mem_of_getElem? (i := 85) rfl) rfl
set_option maxRecDepth 20000 in
theorem jw_569 : (Cond.code yJ5_ensureCapacityInternal_d00df cJ5_ensureCapacityInternal_d00df 3 none) ∈ mW := mtb_3 (List.mem_of_getElem? (i := 50) rfl) rfl
theorem ju_J5_100 : mWU RJ5 RJ4 100 yJ5_ensureCapacityInternal_d00df yJ5_ensureCapacityInternal_d00df cJ5_ensureCapacityInternal_d00df 3 none 1 := ⟨jw_566, jw_1399, ⟨jw_568, _, _, _, jw_569⟩, Or.inr ⟨rfl, jw_567, yJ5_isLatin1_aae02, rfl, jw_604⟩, jw_568, jw_50, jw_569, ⟨by decide +kernel, by decide +kernel⟩, by decide +kernel⟩
set_option maxRecDepth 20000 in
theorem jw_570 : (Cond.methodLink RJ5 104 yJ5_newCapacity_0f7a4) ∈ mW := mtb_3 (List.mem_of_getElem? (i := 51) rfl) rfl
set_option maxRecDepth 20000 in
theorem jw_572 : (Cond.instanceMethod yJ5_newCapacity_0f7a4) ∈ mW := mtb_3 (List.mem_of_getElem? (i := 53) rfl) rfl
set_option maxRecDepth 20000 in
theorem jw_1400 : (Cond.sameMethod RJ5 RJ5 "newCapacity" "(I)I") ∈ mW := mtb_6 (List.mem_of_getElem? (i := 161) rfl) rfl
set_option maxRecDepth 20000 in
theorem jw_571 : (Cond.privateMethod yJ5_newCapacity_0f7a4) ∈ mW := mtb_3 (List.mem_of_getElem? (i := 52) rfl) rfl
set_option maxRecDepth 20000 in
theorem jw_573 : (Cond.code yJ5_newCapacity_0f7a4 cJ5_newCapacity_0f7a4 6 (some .int)) ∈ mW := mtb_3 (List.mem_of_getElem? (i := 54) rfl) rfl
theorem ju_J5_104 : mWU RJ5 RJ4 104 yJ5_newCapacity_0f7a4 yJ5_newCapacity_0f7a4 cJ5_newCapacity_0f7a4 6 (some .int) 1 := ⟨jw_570, jw_1400, ⟨jw_572, _, _, _, jw_573⟩, Or.inr ⟨rfl, jw_571, yJ5_isLatin1_aae02, rfl, jw_604⟩, jw_572, jw_50, jw_573, ⟨by decide +kernel, by decide +kernel⟩, by decide +kernel⟩
set_option maxRecDepth 20000 in
theorem jw_574 : (Cond.methodLink RJ5 114 yJ8_newLength_cabcc) ∈ mW := mtb_3 (List.mem_of_getElem? (i := 55) rfl) rfl
set_option maxRecDepth 20000 in
theorem jw_54 : (Cond.initialized RJ8) ∈ mW := mtb_1 (List.mem_of_getElem? (i := 15) rfl) rfl
set_option maxRecDepth 20000 in
theorem jw_575 : (Cond.static yJ8_newLength_cabcc) ∈ mW := mtb_3 (List.mem_of_getElem? (i := 56) rfl) rfl
set_option maxRecDepth 20000 in
theorem jw_576 : (Cond.code yJ8_newLength_cabcc cJ8_newLength_cabcc 4 (some .int)) ∈ mW := mtb_3 (List.mem_of_getElem? (i := 57) rfl) rfl
theorem js_J5_114 : mWS RJ5 114 yJ8_newLength_cabcc cJ8_newLength_cabcc 4 (some .int) 3 := ⟨jw_574, jw_575, jw_54, jw_576, ⟨by decide +kernel, by decide +kernel⟩, by decide +kernel⟩
set_option maxRecDepth 20000 in
theorem jw_577 : (Cond.methodLink RJ8 194 Lib.Math.max.name) ∈ mW := mtb_3 (List.mem_of_getElem? (i := 58) rfl) rfl
theorem jl_J8_194 : (Cond.methodLink RJ8 194 Lib.Math.max.name) ∈ mW := jw_577
set_option maxRecDepth 20000 in
theorem jw_580 : (Cond.constant RJ8 200 (2147483639)) ∈ mW := mtb_3 (List.mem_of_getElem? (i := 61) rfl) rfl
theorem jc_J8_200 : (Cond.constant RJ8 200 (2147483639)) ∈ mW := jw_580
set_option maxRecDepth 20000 in
theorem jw_584 : (Cond.constant RJ5 39 (2147483647)) ∈ mW := mtb_3 (List.mem_of_getElem? (i := 65) rfl) rfl
theorem jc_J5_39 : (Cond.constant RJ5 39 (2147483647)) ∈ mW := jw_584
set_option maxRecDepth 20000 in
theorem jw_585 : (Cond.methodLink RJ5 108 yJ7_copyOf_9075b) ∈ mW := mtb_3 (List.mem_of_getElem? (i := 66) rfl) rfl
set_option maxRecDepth 20000 in
theorem jw_55 : (Cond.initialized RJ7) ∈ mW := mtb_1 (List.mem_of_getElem? (i := 16) rfl) rfl
set_option maxRecDepth 20000 in
theorem jw_586 : (Cond.static yJ7_copyOf_9075b) ∈ mW := mtb_3 (List.mem_of_getElem? (i := 67) rfl) rfl
set_option maxRecDepth 20000 in
theorem jw_587 : (Cond.code yJ7_copyOf_9075b cJ7_copyOf_9075b 3 (some (.array .byte))) ∈ mW := mtb_3 (List.mem_of_getElem? (i := 68) rfl) rfl
theorem js_J5_108 : mWS RJ5 108 yJ7_copyOf_9075b cJ7_copyOf_9075b 3 (some (.array .byte)) 2 := ⟨jw_585, jw_586, jw_55, jw_587, ⟨by decide +kernel, by decide +kernel⟩, by decide +kernel⟩
set_option maxRecDepth 20000 in
theorem jw_588 : (Cond.methodLink RJ7 310 ⟨"[B", "clone", "()Ljava/lang/Object;"⟩) ∈ mW := mtb_3 (List.mem_of_getElem? (i := 69) rfl) rfl
theorem jl_J7_310 : (Cond.methodLink RJ7 310 ⟨"[B", "clone", "()Ljava/lang/Object;"⟩) ∈ mW := jw_588
set_option maxRecDepth 20000 in
theorem jw_594 : (Cond.classLink RJ7 311 "[B") ∈ mW := mtb_3 (List.mem_of_getElem? (i := 75) rfl) rfl
theorem jk_J7_311 : (Cond.classLink RJ7 311 "[B") ∈ mW := jw_594
set_option maxRecDepth 20000 in
theorem jw_595 : (Cond.methodLink RJ7 304 Lib.Math.min.name) ∈ mW := mtb_3 (List.mem_of_getElem? (i := 76) rfl) rfl
theorem jl_J7_304 : (Cond.methodLink RJ7 304 Lib.Math.min.name) ∈ mW := jw_595
set_option maxRecDepth 20000 in
theorem jw_598 : (Cond.methodLink RJ7 150 arraycopyName) ∈ mW := mtb_3 (List.mem_of_getElem? (i := 79) rfl) rfl
theorem jl_J7_150 : (Cond.methodLink RJ7 150 arraycopyName) ∈ mW := jw_598
set_option maxRecDepth 20000 in
theorem jw_601 : (Cond.methodLink RJ5 83 yJ5_isLatin1_aae02) ∈ mW := mtb_3 (List.mem_of_getElem? (i := 82) rfl) rfl
set_option maxRecDepth 20000 in
theorem jw_602 : (Cond.instanceMethod yJ5_isLatin1_aae02) ∈ mW := mtb_3 (List.mem_of_getElem? (i := 83) rfl) rfl
set_option maxRecDepth 20000 in
theorem jw_603 : (Cond.sameMethod RJ5 RJ5 "isLatin1" "()Z") ∈ mW := mtb_3 (List.mem_of_getElem? (i := 84) rfl) rfl
set_option maxRecDepth 20000 in
theorem jw_605 : (Cond.code yJ5_isLatin1_aae02 cJ5_isLatin1_aae02 1 (some .boolean)) ∈ mW := mtb_3 (List.mem_of_getElem? (i := 86) rfl) rfl
theorem ju_J5_83 : mWU RJ5 RJ4 83 yJ5_isLatin1_aae02 yJ5_isLatin1_aae02 cJ5_isLatin1_aae02 1 (some .boolean) 0 := ⟨jw_601, jw_603, ⟨jw_602, _, _, _, jw_605⟩, Or.inl jw_604, jw_602, jw_50, jw_605, ⟨by decide +kernel, by decide +kernel⟩, by decide +kernel⟩
set_option maxRecDepth 20000 in
theorem jw_606 : (Cond.methodLink RJ5 191 yJ1_canEncode_fc78d) ∈ mW := mtb_3 (List.mem_of_getElem? (i := 87) rfl) rfl
set_option maxRecDepth 20000 in
theorem jw_57 : (Cond.initialized RJ1) ∈ mW := mtb_1 (List.mem_of_getElem? (i := 18) rfl) rfl
set_option maxRecDepth 20000 in
theorem jw_607 : (Cond.static yJ1_canEncode_fc78d) ∈ mW := mtb_3 (List.mem_of_getElem? (i := 88) rfl) rfl
set_option maxRecDepth 20000 in
theorem jw_608 : (Cond.code yJ1_canEncode_fc78d cJ1_canEncode_fc78d 1 (some .boolean)) ∈ mW := mtb_3 (List.mem_of_getElem? (i := 89) rfl) rfl
theorem js_J5_191 : mWS RJ5 191 yJ1_canEncode_fc78d cJ1_canEncode_fc78d 1 (some .boolean) 1 := ⟨jw_606, jw_607, jw_57, jw_608, ⟨by decide +kernel, by decide +kernel⟩, by decide +kernel⟩
set_option maxRecDepth 20000 in
theorem jw_654 : (Cond.methodLink RX2 294 yJ4_reverse_43fcb) ∈ mW := mtb_3 (List.mem_of_getElem? (i := 135) rfl) rfl
set_option maxRecDepth 20000 in
theorem jw_655 : (Cond.instanceMethod yJ4_reverse_43fcb) ∈ mW := mtb_3 (List.mem_of_getElem? (i := 136) rfl) rfl
set_option maxRecDepth 20000 in
theorem jw_656 : (Cond.selects RJ4 yJ4_reverse_43fcb yJ4_reverse_43fcb) ∈ mW := mtb_3 (List.mem_of_getElem? (i := 137) rfl) rfl
set_option maxRecDepth 20000 in
theorem jw_657 : (Cond.code yJ4_reverse_43fcb cJ4_reverse_43fcb 1 (some (.object "java/lang/StringBuilder"))) ∈ mW := mtb_3 (List.mem_of_getElem? (i := 138) rfl) rfl
theorem jv_X2_294 : mWV RX2 294 yJ4_reverse_43fcb cJ4_reverse_43fcb 1 (some (.object "java/lang/StringBuilder")) 0 := ⟨jw_654, jw_655, jw_656, jw_51, jw_657, ⟨by decide +kernel, by decide +kernel⟩, by decide +kernel⟩
set_option maxRecDepth 20000 in
theorem jw_658 : (Cond.methodLink RJ4 127 yJ5_reverse_278bc) ∈ mW := mtb_3 (List.mem_of_getElem? (i := 139) rfl) rfl
set_option maxRecDepth 20000 in
theorem jw_659 : (Cond.instanceMethod yJ5_reverse_278bc) ∈ mW := mtb_3 (List.mem_of_getElem? (i := 140) rfl) rfl
set_option maxRecDepth 20000 in
theorem jw_1402 : (Cond.sameMethod RJ5 RJ5 "reverse" "()Ljava/lang/AbstractStringBuilder;") ∈ mW := mtb_6 (List.mem_of_getElem? (i := 163) rfl) rfl
set_option maxRecDepth 20000 in
theorem jw_660 : (Cond.code yJ5_reverse_278bc cJ5_reverse_278bc 7 (some (.object "java/lang/AbstractStringBuilder"))) ∈ mW := mtb_3 (List.mem_of_getElem? (i := 141) rfl) rfl
theorem jsu_J4_127 : mWSU RJ4 127 yJ5_reverse_278bc cJ5_reverse_278bc 7 (some (.object "java/lang/AbstractStringBuilder")) 0 := ⟨jw_658, jw_1402, jw_553, jw_659, jw_50, jw_660, by decide +kernel, by decide +kernel⟩
set_option maxRecDepth 20000 in
theorem jw_691 : (Cond.methodLink RX2 298 yJ4_toString_0e30d) ∈ mW := mtb_3 (List.mem_of_getElem? (i := 172) rfl) rfl
set_option maxRecDepth 20000 in
theorem jw_692 : (Cond.instanceMethod yJ4_toString_0e30d) ∈ mW := mtb_3 (List.mem_of_getElem? (i := 173) rfl) rfl
set_option maxRecDepth 20000 in
theorem jw_693 : (Cond.selects RJ4 yJ4_toString_0e30d yJ4_toString_0e30d) ∈ mW := mtb_3 (List.mem_of_getElem? (i := 174) rfl) rfl
set_option maxRecDepth 20000 in
theorem jw_694 : (Cond.code yJ4_toString_0e30d cJ4_toString_0e30d 1 (some (.object "java/lang/String"))) ∈ mW := mtb_3 (List.mem_of_getElem? (i := 175) rfl) rfl
theorem jv_X2_298 : mWV RX2 298 yJ4_toString_0e30d cJ4_toString_0e30d 1 (some (.object "java/lang/String")) 0 := ⟨jw_691, jw_692, jw_693, jw_51, jw_694, ⟨by decide +kernel, by decide +kernel⟩, by decide +kernel⟩
set_option maxRecDepth 20000 in
theorem jw_695 : (Cond.classLink RJ4 18 "java/lang/String") ∈ mW := mtb_3 (List.mem_of_getElem? (i := 176) rfl) rfl
theorem jk_J4_18 : (Cond.classLink RJ4 18 "java/lang/String") ∈ mW := jw_695
set_option maxRecDepth 20000 in
theorem jw_696 : (Cond.instantiable RJ0 4) ∈ mW := mtb_3 (List.mem_of_getElem? (i := 177) rfl) rfl
theorem jn_J0 : (Cond.instantiable RJ0 4) ∈ mW := jw_696
set_option maxRecDepth 20000 in
theorem jw_697 : (Cond.methodLink RJ4 137 yJ0_init_81219) ∈ mW := mtb_3 (List.mem_of_getElem? (i := 178) rfl) rfl
set_option maxRecDepth 20000 in
theorem jw_698 : (Cond.instanceMethod yJ0_init_81219) ∈ mW := mtb_3 (List.mem_of_getElem? (i := 179) rfl) rfl
set_option maxRecDepth 20000 in
theorem jw_699 : (Cond.code yJ0_init_81219 cJ0_init_81219 2 none) ∈ mW := mtb_3 (List.mem_of_getElem? (i := 180) rfl) rfl
theorem ji_J4_137 : mWI RJ4 137 yJ0_init_81219 cJ0_init_81219 2 1 := ⟨jw_697, jw_698, jw_52, jw_699, ⟨by decide +kernel, by decide +kernel⟩, by decide +kernel, rfl⟩
set_option maxRecDepth 20000 in
theorem jw_700 : (Cond.methodLink RJ0 489 yJ0_init_db425) ∈ mW := mtb_3 (List.mem_of_getElem? (i := 181) rfl) rfl
set_option maxRecDepth 20000 in
theorem jw_701 : (Cond.instanceMethod yJ0_init_db425) ∈ mW := mtb_3 (List.mem_of_getElem? (i := 182) rfl) rfl
set_option maxRecDepth 20000 in
theorem jw_702 : (Cond.code yJ0_init_db425 cJ0_init_db425 5 none) ∈ mW := mtb_3 (List.mem_of_getElem? (i := 183) rfl) rfl
theorem ji_J0_489 : mWI RJ0 489 yJ0_init_db425 cJ0_init_db425 5 2 := ⟨jw_700, jw_701, jw_52, jw_702, ⟨by decide +kernel, by decide +kernel⟩, by decide +kernel, rfl⟩
set_option maxRecDepth 20000 in
theorem jw_703 : (Cond.methodLink RJ0 1 Lib.objectInit) ∈ mW := mtb_3 (List.mem_of_getElem? (i := 184) rfl) rfl
theorem job_J0 : (Cond.methodLink RJ0 1 Lib.objectInit) ∈ mW := jw_703
set_option maxRecDepth 20000 in
theorem jw_704 : (Cond.methodLink RJ0 552 yJ5_getValue_6d5f1) ∈ mW := mtb_3 (List.mem_of_getElem? (i := 185) rfl) rfl
set_option maxRecDepth 20000 in
theorem jw_705 : (Cond.instanceMethod yJ5_getValue_6d5f1) ∈ mW := mtb_3 (List.mem_of_getElem? (i := 186) rfl) rfl
set_option maxRecDepth 20000 in
theorem jw_706 : (Cond.sameMethod RJ5 RJ5 "getValue" "()[B") ∈ mW := mtb_3 (List.mem_of_getElem? (i := 187) rfl) rfl
set_option maxRecDepth 20000 in
theorem jw_707 : (Cond.selects RJ4 yJ5_getValue_6d5f1 yJ5_getValue_6d5f1) ∈ mW := mtb_3 (List.mem_of_getElem? (i := 188) rfl) rfl
set_option maxRecDepth 20000 in
theorem jw_708 : (Cond.code yJ5_getValue_6d5f1 cJ5_getValue_6d5f1 1 (some (.array .byte))) ∈ mW := mtb_3 (List.mem_of_getElem? (i := 189) rfl) rfl
theorem ju_J0_552 : mWU RJ0 RJ4 552 yJ5_getValue_6d5f1 yJ5_getValue_6d5f1 cJ5_getValue_6d5f1 1 (some (.array .byte)) 0 := ⟨jw_704, jw_706, ⟨jw_705, _, _, _, jw_708⟩, Or.inl jw_707, jw_705, jw_50, jw_708, ⟨by decide +kernel, by decide +kernel⟩, by decide +kernel⟩
set_option maxRecDepth 20000 in
theorem jw_709 : (Cond.methodLink RJ0 549 yJ5_length_8abf5) ∈ mW := mtb_3 (List.mem_of_getElem? (i := 190) rfl) rfl
set_option maxRecDepth 20000 in
theorem jw_710 : (Cond.instanceMethod yJ5_length_8abf5) ∈ mW := mtb_3 (List.mem_of_getElem? (i := 191) rfl) rfl
set_option maxRecDepth 20000 in
theorem jw_711 : (Cond.sameMethod RJ5 RJ5 "length" "()I") ∈ mW := mtb_3 (List.mem_of_getElem? (i := 192) rfl) rfl
set_option maxRecDepth 20000 in
theorem jw_712 : (Cond.selects RJ4 yJ5_length_8abf5 yJ4_length_8abf5) ∈ mW := mtb_3 (List.mem_of_getElem? (i := 193) rfl) rfl
set_option maxRecDepth 20000 in
theorem jw_713 : (Cond.instanceMethod yJ4_length_8abf5) ∈ mW := mtb_3 (List.mem_of_getElem? (i := 194) rfl) rfl
set_option maxRecDepth 20000 in
theorem jw_716 : (Cond.code yJ5_length_8abf5 cJ5_length_8abf5 1 (some .int)) ∈ mW := mtb_3 (List.mem_of_getElem? (i := 197) rfl) rfl
set_option maxRecDepth 20000 in
theorem jw_714 : (Cond.code yJ4_length_8abf5 cJ4_length_8abf5 1 (some .int)) ∈ mW := mtb_3 (List.mem_of_getElem? (i := 195) rfl) rfl
theorem ju_J0_549 : mWU RJ0 RJ4 549 yJ5_length_8abf5 yJ4_length_8abf5 cJ4_length_8abf5 1 (some .int) 0 := ⟨jw_709, jw_711, ⟨jw_710, _, _, _, jw_716⟩, Or.inl jw_712, jw_713, jw_51, jw_714, ⟨by decide +kernel, by decide +kernel⟩, by decide +kernel⟩
set_option maxRecDepth 20000 in
theorem jw_715 : (Cond.methodLink RJ4 343 yJ5_length_8abf5) ∈ mW := mtb_3 (List.mem_of_getElem? (i := 196) rfl) rfl
theorem jsu_J4_343 : mWSU RJ4 343 yJ5_length_8abf5 cJ5_length_8abf5 1 (some .int) 0 := ⟨jw_715, jw_711, jw_553, jw_710, jw_50, jw_716, by decide +kernel, by decide +kernel⟩
set_option maxRecDepth 20000 in
theorem jw_717 : (Cond.methodLink RJ0 1047 yJ5_isLatin1_aae02) ∈ mW := mtb_3 (List.mem_of_getElem? (i := 198) rfl) rfl
theorem ju_J0_1047 : mWU RJ0 RJ4 1047 yJ5_isLatin1_aae02 yJ5_isLatin1_aae02 cJ5_isLatin1_aae02 1 (some .boolean) 0 := ⟨jw_717, jw_603, ⟨jw_602, _, _, _, jw_605⟩, Or.inl jw_604, jw_602, jw_50, jw_605, ⟨by decide +kernel, by decide +kernel⟩, by decide +kernel⟩
set_option maxRecDepth 20000 in
theorem jw_718 : (Cond.methodLink RJ0 54 yJ7_copyOfRange_39247) ∈ mW := mtb_3 (List.mem_of_getElem? (i := 199) rfl) rfl
set_option maxRecDepth 20000 in
theorem jw_719 : (Cond.static yJ7_copyOfRange_39247) ∈ mW := mtb_3 (List.mem_of_getElem? (i := 200) rfl) rfl
set_option maxRecDepth 20000 in
theorem jw_720 : (Cond.code yJ7_copyOfRange_39247 cJ7_copyOfRange_39247 3 (some (.array .byte))) ∈ mW := mtb_3 (List.mem_of_getElem? (i := 201) rfl) rfl
theorem js_J0_54 : mWS RJ0 54 yJ7_copyOfRange_39247 cJ7_copyOfRange_39247 3 (some (.array .byte)) 3 := ⟨jw_718, jw_719, jw_55, jw_720, ⟨by decide +kernel, by decide +kernel⟩, by decide +kernel⟩
set_option maxRecDepth 20000 in
theorem jw_721 : (Cond.methodLink RJ7 339 yJ7_copyOfRangeByte_39247) ∈ mW := mtb_3 (List.mem_of_getElem? (i := 202) rfl) rfl
set_option maxRecDepth 20000 in
theorem jw_722 : (Cond.static yJ7_copyOfRangeByte_39247) ∈ mW := mtb_3 (List.mem_of_getElem? (i := 203) rfl) rfl
set_option maxRecDepth 20000 in
theorem jw_723 : (Cond.code yJ7_copyOfRangeByte_39247 cJ7_copyOfRangeByte_39247 5 (some (.array .byte))) ∈ mW := mtb_3 (List.mem_of_getElem? (i := 204) rfl) rfl
theorem js_J7_339 : mWS RJ7 339 yJ7_copyOfRangeByte_39247 cJ7_copyOfRangeByte_39247 5 (some (.array .byte)) 3 := ⟨jw_721, jw_722, jw_55, jw_723, ⟨by decide +kernel, by decide +kernel⟩, by decide +kernel⟩
set_option maxRecDepth 20000 in
theorem jw_724 : (Cond.methodLink RJ7 343 yJ7_checkLength_df160) ∈ mW := mtb_3 (List.mem_of_getElem? (i := 205) rfl) rfl
set_option maxRecDepth 20000 in
theorem jw_725 : (Cond.static yJ7_checkLength_df160) ∈ mW := mtb_3 (List.mem_of_getElem? (i := 206) rfl) rfl
set_option maxRecDepth 20000 in
theorem jw_726 : (Cond.code yJ7_checkLength_df160 cJ7_checkLength_df160 2 none) ∈ mW := mtb_3 (List.mem_of_getElem? (i := 207) rfl) rfl
theorem js_J7_343 : mWS RJ7 343 yJ7_checkLength_df160 cJ7_checkLength_df160 2 none 2 := ⟨jw_724, jw_725, jw_55, jw_726, ⟨by decide +kernel, by decide +kernel⟩, by decide +kernel⟩
set_option maxRecDepth 20000 in
theorem jw_763 : (Cond.instanceMethod yJ4_append_15ec4) ∈ mW := mtb_4 (List.mem_of_getElem? (i := 4) rfl) rfl
set_option maxRecDepth 20000 in
theorem jw_764 : (Cond.selects RJ4 yJ4_append_15ec4 yJ4_append_15ec4) ∈ mW := mtb_4 (List.mem_of_getElem? (i := 5) rfl) rfl
set_option maxRecDepth 20000 in
theorem jw_765 : (Cond.code yJ4_append_15ec4 cJ4_append_15ec4 2 (some (.object "java/lang/StringBuilder"))) ∈ mW := mtb_4 (List.mem_of_getElem? (i := 6) rfl) rfl
set_option maxRecDepth 20000 in
theorem jw_766 : (Cond.methodLink RJ4 29 yJ5_append_cf1ce) ∈ mW := mtb_4 (List.mem_of_getElem? (i := 7) rfl) rfl
set_option maxRecDepth 20000 in
theorem jw_767 : (Cond.instanceMethod yJ5_append_cf1ce) ∈ mW := mtb_4 (List.mem_of_getElem? (i := 8) rfl) rfl
set_option maxRecDepth 20000 in
theorem jw_1404 : (Cond.sameMethod RJ5 RJ5 "append" "(Ljava/lang/String;)Ljava/lang/AbstractStringBuilder;") ∈ mW := mtb_6 (List.mem_of_getElem? (i := 165) rfl) rfl
set_option maxRecDepth 20000 in
theorem jw_768 : (Cond.code yJ5_append_cf1ce cJ5_append_cf1ce 3 (some (.object "java/lang/AbstractStringBuilder"))) ∈ mW := mtb_4 (List.mem_of_getElem? (i := 9) rfl) rfl
theorem jsu_J4_29 : mWSU RJ4 29 yJ5_append_cf1ce cJ5_append_cf1ce 3 (some (.object "java/lang/AbstractStringBuilder")) 1 := ⟨jw_766, jw_1404, jw_553, jw_767, jw_50, jw_768, by decide +kernel, by decide +kernel⟩
set_option maxRecDepth 20000 in
theorem jw_776 : (Cond.methodLink RJ5 32 yJ0_length_8abf5) ∈ mW := mtb_4 (List.mem_of_getElem? (i := 17) rfl) rfl
set_option maxRecDepth 20000 in
theorem jw_777 : (Cond.instanceMethod yJ0_length_8abf5) ∈ mW := mtb_4 (List.mem_of_getElem? (i := 18) rfl) rfl
set_option maxRecDepth 20000 in
theorem jw_778 : (Cond.selects RJ0 yJ0_length_8abf5 yJ0_length_8abf5) ∈ mW := mtb_4 (List.mem_of_getElem? (i := 19) rfl) rfl
set_option maxRecDepth 20000 in
theorem jw_779 : (Cond.code yJ0_length_8abf5 cJ0_length_8abf5 1 (some .int)) ∈ mW := mtb_4 (List.mem_of_getElem? (i := 20) rfl) rfl
theorem jv_J5_32 : mWV RJ5 32 yJ0_length_8abf5 cJ0_length_8abf5 1 (some .int) 0 := ⟨jw_776, jw_777, jw_778, jw_52, jw_779, ⟨by decide +kernel, by decide +kernel⟩, by decide +kernel⟩
set_option maxRecDepth 20000 in
theorem jw_780 : (Cond.methodLink RJ0 335 yJ0_coder_7d493) ∈ mW := mtb_4 (List.mem_of_getElem? (i := 21) rfl) rfl
set_option maxRecDepth 20000 in
theorem jw_781 : (Cond.instanceMethod yJ0_coder_7d493) ∈ mW := mtb_4 (List.mem_of_getElem? (i := 22) rfl) rfl
set_option maxRecDepth 20000 in
theorem jw_782 : (Cond.selects RJ0 yJ0_coder_7d493 yJ0_coder_7d493) ∈ mW := mtb_4 (List.mem_of_getElem? (i := 23) rfl) rfl
set_option maxRecDepth 20000 in
theorem jw_783 : (Cond.code yJ0_coder_7d493 cJ0_coder_7d493 1 (some .byte)) ∈ mW := mtb_4 (List.mem_of_getElem? (i := 24) rfl) rfl
theorem jv_J0_335 : mWV RJ0 335 yJ0_coder_7d493 cJ0_coder_7d493 1 (some .byte) 0 := ⟨jw_780, jw_781, jw_782, jw_52, jw_783, ⟨by decide +kernel, by decide +kernel⟩, by decide +kernel⟩
set_option maxRecDepth 20000 in
theorem jw_784 : (Cond.fieldLink RJ0 38 "java/lang/String" "COMPACT_STRINGS" "Z") ∈ mW := mtb_4 (List.mem_of_getElem? (i := 25) rfl) rfl
theorem jfl_J0_38 : (Cond.fieldLink RJ0 38 "java/lang/String" "COMPACT_STRINGS" "Z") ∈ mW := jw_784
set_option maxRecDepth 20000 in
theorem jw_785 : (Cond.methodLink RJ5 208 yJ5_putStringAt_47b60) ∈ mW := mtb_4 (List.mem_of_getElem? (i := 26) rfl) rfl
set_option maxRecDepth 20000 in
theorem jw_787 : (Cond.instanceMethod yJ5_putStringAt_47b60) ∈ mW := mtb_4 (List.mem_of_getElem? (i := 28) rfl) rfl
set_option maxRecDepth 20000 in
theorem jw_1406 : (Cond.sameMethod RJ5 RJ5 "putStringAt" "(ILjava/lang/String;)V") ∈ mW := mtb_6 (List.mem_of_getElem? (i := 167) rfl) rfl
set_option maxRecDepth 20000 in
theorem jw_786 : (Cond.privateMethod yJ5_putStringAt_47b60) ∈ mW := mtb_4 (List.mem_of_getElem? (i := 27) rfl) rfl
set_option maxRecDepth 20000 in
theorem jw_788 : (Cond.code yJ5_putStringAt_47b60 cJ5_putStringAt_47b60 3 none) ∈ mW := mtb_4 (List.mem_of_getElem? (i := 29) rfl) rfl
theorem ju_J5_208 : mWU RJ5 RJ4 208 yJ5_putStringAt_47b60 yJ5_putStringAt_47b60 cJ5_putStringAt_47b60 3 none 2 := ⟨jw_785, jw_1406, ⟨jw_787, _, _, _, jw_788⟩, Or.inr ⟨rfl, jw_786, yJ5_isLatin1_aae02, rfl, jw_604⟩, jw_787, jw_50, jw_788, ⟨by decide +kernel, by decide +kernel⟩, by decide +kernel⟩
set_option maxRecDepth 20000 in
theorem jw_789 : (Cond.methodLink RJ5 397 yJ5_inflateIfNeededFor_a7421) ∈ mW := mtb_4 (List.mem_of_getElem? (i := 30) rfl) rfl
set_option maxRecDepth 20000 in
theorem jw_791 : (Cond.instanceMethod yJ5_inflateIfNeededFor_a7421) ∈ mW := mtb_4 (List.mem_of_getElem? (i := 32) rfl) rfl
set_option maxRecDepth 20000 in
theorem jw_1407 : (Cond.sameMethod RJ5 RJ5 "inflateIfNeededFor" "(Ljava/lang/String;)V") ∈ mW := mtb_6 (List.mem_of_getElem? (i := 168) rfl) rfl
set_option maxRecDepth 20000 in
theorem jw_790 : (Cond.privateMethod yJ5_inflateIfNeededFor_a7421) ∈ mW := mtb_4 (List.mem_of_getElem? (i := 31) rfl) rfl
set_option maxRecDepth 20000 in
theorem jw_792 : (Cond.code yJ5_inflateIfNeededFor_a7421 cJ5_inflateIfNeededFor_a7421 2 none) ∈ mW := mtb_4 (List.mem_of_getElem? (i := 33) rfl) rfl
theorem ju_J5_397 : mWU RJ5 RJ4 397 yJ5_inflateIfNeededFor_a7421 yJ5_inflateIfNeededFor_a7421 cJ5_inflateIfNeededFor_a7421 2 none 1 := ⟨jw_789, jw_1407, ⟨jw_791, _, _, _, jw_792⟩, Or.inr ⟨rfl, jw_790, yJ5_isLatin1_aae02, rfl, jw_604⟩, jw_791, jw_50, jw_792, ⟨by decide +kernel, by decide +kernel⟩, by decide +kernel⟩
set_option maxRecDepth 20000 in
theorem jw_793 : (Cond.methodLink RJ5 40 yJ0_coder_7d493) ∈ mW := mtb_4 (List.mem_of_getElem? (i := 34) rfl) rfl
theorem jv_J5_40 : mWV RJ5 40 yJ0_coder_7d493 cJ0_coder_7d493 1 (some .byte) 0 := ⟨jw_793, jw_781, jw_782, jw_52, jw_783, ⟨by decide +kernel, by decide +kernel⟩, by decide +kernel⟩
set_option maxRecDepth 20000 in
theorem jw_794 : (Cond.methodLink RJ5 399 yJ0_getBytes_840e7) ∈ mW := mtb_4 (List.mem_of_getElem? (i := 35) rfl) rfl
set_option maxRecDepth 20000 in
theorem jw_795 : (Cond.instanceMethod yJ0_getBytes_840e7) ∈ mW := mtb_4 (List.mem_of_getElem? (i := 36) rfl) rfl
set_option maxRecDepth 20000 in
theorem jw_796 : (Cond.selects RJ0 yJ0_getBytes_840e7 yJ0_getBytes_840e7) ∈ mW := mtb_4 (List.mem_of_getElem? (i := 37) rfl) rfl
set_option maxRecDepth 20000 in
theorem jw_797 : (Cond.code yJ0_getBytes_840e7 cJ0_getBytes_840e7 4 none) ∈ mW := mtb_4 (List.mem_of_getElem? (i := 38) rfl) rfl
theorem jv_J5_399 : mWV RJ5 399 yJ0_getBytes_840e7 cJ0_getBytes_840e7 4 none 3 := ⟨jw_794, jw_795, jw_796, jw_52, jw_797, ⟨by decide +kernel, by decide +kernel⟩, by decide +kernel⟩
set_option maxRecDepth 20000 in
theorem jw_798 : (Cond.methodLink RJ0 212 arraycopyName) ∈ mW := mtb_4 (List.mem_of_getElem? (i := 39) rfl) rfl
theorem jl_J0_212 : (Cond.methodLink RJ0 212 arraycopyName) ∈ mW := jw_798
set_option maxRecDepth 20000 in
theorem jw_812 : (Cond.fieldLink RJ0 9 "java/lang/String" "value" "[B") ∈ mW := mtb_4 (List.mem_of_getElem? (i := 53) rfl) rfl
theorem jf_J0_9 : mFd RJ0 9 0 0 RJ0 TJ0 4 (.array .byte) := ⟨kinJ0, ⟨_, tyJ0_ok⟩, nmJ0, rfl, by decide, jw_812, by decide +kernel⟩
theorem jfl_J0_9 : (Cond.fieldLink RJ0 9 "java/lang/String" "value" "[B") ∈ mW := jw_812
set_option maxRecDepth 20000 in
theorem jw_813 : (Cond.fieldLink RJ0 15 "java/lang/String" "coder" "B") ∈ mW := mtb_4 (List.mem_of_getElem? (i := 54) rfl) rfl
theorem jf_J0_15 : mFd RJ0 15 0 1 RJ0 TJ0 4 .byte := ⟨kinJ0, ⟨_, tyJ0_ok⟩, nmJ0, rfl, by decide, jw_813, by decide +kernel⟩
theorem jfl_J0_15 : (Cond.fieldLink RJ0 15 "java/lang/String" "coder" "B") ∈ mW := jw_813
set_option maxRecDepth 20000 in
theorem jw_1178 : (Cond.methodLink RX4 123 yJ4_init_da8c8) ∈ mW := mtb_5 (List.mem_of_getElem? (i := 179) rfl) rfl
theorem ji_X4_123 : mWI RX4 123 yJ4_init_da8c8 cJ4_init_da8c8 1 0 := ⟨jw_1178, jw_526, jw_51, jw_527, ⟨by decide +kernel, by decide +kernel⟩, by decide +kernel, rfl⟩
set_option maxRecDepth 20000 in
theorem jw_1179 : (Cond.methodLink RX4 124 yJ4_append_15ec4) ∈ mW := mtb_5 (List.mem_of_getElem? (i := 180) rfl) rfl
theorem jv_X4_124 : mWV RX4 124 yJ4_append_15ec4 cJ4_append_15ec4 2 (some (.object "java/lang/StringBuilder")) 1 := ⟨jw_1179, jw_763, jw_764, jw_51, jw_765, ⟨by decide +kernel, by decide +kernel⟩, by decide +kernel⟩
set_option maxRecDepth 20000 in
theorem jw_1180 : (Cond.methodLink RX4 128 yJ4_append_f7089) ∈ mW := mtb_5 (List.mem_of_getElem? (i := 181) rfl) rfl
set_option maxRecDepth 20000 in
theorem jw_1181 : (Cond.instanceMethod yJ4_append_f7089) ∈ mW := mtb_5 (List.mem_of_getElem? (i := 182) rfl) rfl
set_option maxRecDepth 20000 in
theorem jw_1182 : (Cond.selects RJ4 yJ4_append_f7089 yJ4_append_f7089) ∈ mW := mtb_5 (List.mem_of_getElem? (i := 183) rfl) rfl
set_option maxRecDepth 20000 in
theorem jw_1183 : (Cond.code yJ4_append_f7089 cJ4_append_f7089 3 (some (.object "java/lang/StringBuilder"))) ∈ mW := mtb_5 (List.mem_of_getElem? (i := 184) rfl) rfl
theorem jv_X4_128 : mWV RX4 128 yJ4_append_f7089 cJ4_append_f7089 3 (some (.object "java/lang/StringBuilder")) 1 := ⟨jw_1180, jw_1181, jw_1182, jw_51, jw_1183, ⟨by decide +kernel, by decide +kernel⟩, by decide +kernel⟩
set_option maxRecDepth 20000 in
theorem jw_1184 : (Cond.methodLink RJ4 56 yJ5_append_66267) ∈ mW := mtb_5 (List.mem_of_getElem? (i := 185) rfl) rfl
set_option maxRecDepth 20000 in
theorem jw_1185 : (Cond.instanceMethod yJ5_append_66267) ∈ mW := mtb_5 (List.mem_of_getElem? (i := 186) rfl) rfl
set_option maxRecDepth 20000 in
theorem jw_1408 : (Cond.sameMethod RJ5 RJ5 "append" "(J)Ljava/lang/AbstractStringBuilder;") ∈ mW := mtb_6 (List.mem_of_getElem? (i := 169) rfl) rfl
set_option maxRecDepth 20000 in
theorem jw_1186 : (Cond.code yJ5_append_66267 cJ5_append_66267 5 (some (.object "java/lang/AbstractStringBuilder"))) ∈ mW := mtb_5 (List.mem_of_getElem? (i := 187) rfl) rfl
theorem jsu_J4_56 : mWSU RJ4 56 yJ5_append_66267 cJ5_append_66267 5 (some (.object "java/lang/AbstractStringBuilder")) 1 := ⟨jw_1184, jw_1408, jw_553, jw_1185, jw_50, jw_1186, by decide +kernel, by decide +kernel⟩
set_option maxRecDepth 20000 in
theorem jw_1187 : (Cond.methodLink RJ5 254 yJ13_stringSize_95d88) ∈ mW := mtb_5 (List.mem_of_getElem? (i := 188) rfl) rfl
set_option maxRecDepth 20000 in
theorem jw_61 : (Cond.initialized RJ13) ∈ mW := mtb_1 (List.mem_of_getElem? (i := 22) rfl) rfl
set_option maxRecDepth 20000 in
theorem jw_1188 : (Cond.static yJ13_stringSize_95d88) ∈ mW := mtb_5 (List.mem_of_getElem? (i := 189) rfl) rfl
set_option maxRecDepth 20000 in
theorem jw_1189 : (Cond.code yJ13_stringSize_95d88 cJ13_stringSize_95d88 6 (some .int)) ∈ mW := mtb_5 (List.mem_of_getElem? (i := 190) rfl) rfl
theorem js_J5_254 : mWS RJ5 254 yJ13_stringSize_95d88 cJ13_stringSize_95d88 6 (some .int) 1 := ⟨jw_1187, jw_1188, jw_61, jw_1189, ⟨by decide +kernel, by decide +kernel⟩, by decide +kernel⟩
set_option maxRecDepth 20000 in
theorem jw_1190 : (Cond.constantLong RJ13 140 (-10)) ∈ mW := mtb_5 (List.mem_of_getElem? (i := 191) rfl) rfl
theorem jc_J13_140 : (Cond.constantLong RJ13 140 (-10)) ∈ mW := jw_1190
set_option maxRecDepth 20000 in
theorem jw_1191 : (Cond.constantLong RJ13 53 (10)) ∈ mW := mtb_5 (List.mem_of_getElem? (i := 192) rfl) rfl
theorem jc_J13_53 : (Cond.constantLong RJ13 53 (10)) ∈ mW := jw_1191
set_option maxRecDepth 20000 in
theorem jw_1192 : (Cond.methodLink RJ5 259 yJ13_getChars_11360) ∈ mW := mtb_5 (List.mem_of_getElem? (i := 193) rfl) rfl
set_option maxRecDepth 20000 in
theorem jw_1193 : (Cond.static yJ13_getChars_11360) ∈ mW := mtb_5 (List.mem_of_getElem? (i := 194) rfl) rfl
set_option maxRecDepth 20000 in
theorem jw_1194 : (Cond.code yJ13_getChars_11360 cJ13_getChars_11360 11 (some .int)) ∈ mW := mtb_5 (List.mem_of_getElem? (i := 195) rfl) rfl
theorem js_J5_259 : mWS RJ5 259 yJ13_getChars_11360 cJ13_getChars_11360 11 (some .int) 3 := ⟨jw_1192, jw_1193, jw_61, jw_1194, ⟨by decide +kernel, by decide +kernel⟩, by decide +kernel⟩
set_option maxRecDepth 20000 in
theorem jw_1195 : (Cond.constantLong RJ13 129 (-2147483648)) ∈ mW := mtb_5 (List.mem_of_getElem? (i := 196) rfl) rfl
theorem jc_J13_129 : (Cond.constantLong RJ13 129 (-2147483648)) ∈ mW := jw_1195
set_option maxRecDepth 20000 in
theorem jw_1196 : (Cond.constantLong RJ13 131 (100)) ∈ mW := mtb_5 (List.mem_of_getElem? (i := 197) rfl) rfl
theorem jc_J13_131 : (Cond.constantLong RJ13 131 (100)) ∈ mW := jw_1196
set_option maxRecDepth 20000 in
theorem jw_1197 : (Cond.fieldLink RJ13 133 "java/lang/Integer" "DigitOnes" "[B") ∈ mW := mtb_5 (List.mem_of_getElem? (i := 198) rfl) rfl
theorem jfl_J13_133 : (Cond.fieldLink RJ13 133 "java/lang/Integer" "DigitOnes" "[B") ∈ mW := jw_1197
set_option maxRecDepth 20000 in
theorem jw_1198 : (Cond.fieldLink RJ13 137 "java/lang/Integer" "DigitTens" "[B") ∈ mW := mtb_5 (List.mem_of_getElem? (i := 199) rfl) rfl
theorem jfl_J13_137 : (Cond.fieldLink RJ13 137 "java/lang/Integer" "DigitTens" "[B") ∈ mW := jw_1198
set_option maxRecDepth 20000 in
theorem jw_1207 : (Cond.methodLink RX4 131 yJ4_toString_0e30d) ∈ mW := mtb_5 (List.mem_of_getElem? (i := 208) rfl) rfl
theorem jv_X4_131 : mWV RX4 131 yJ4_toString_0e30d cJ4_toString_0e30d 1 (some (.object "java/lang/String")) 0 := ⟨jw_1207, jw_692, jw_693, jw_51, jw_694, ⟨by decide +kernel, by decide +kernel⟩, by decide +kernel⟩
theorem dJ4_init_da8c8_w0 : (cJ4_init_da8c8.data.toList.drop 0).take 64 = [42, 16, 16, 183, 0, 1, 177] := by decide +kernel
theorem dJ4_init_da8c8_0 : decode cJ4_init_da8c8 0 = .ok (.aload_n 0, 1) := dk_42 (dq_lk dJ4_init_da8c8_w0 (r := 0) (x := 42) rfl)
theorem dJ4_init_da8c8_1 : decode cJ4_init_da8c8 1 = .ok (.bipush 16, 2) := dk_16 (dq_lk dJ4_init_da8c8_w0 (r := 1) (x := 16) rfl) (dq_lk dJ4_init_da8c8_w0 (r := 2) (x := 16) rfl) (by decide +kernel)
theorem dJ4_init_da8c8_3 : decode cJ4_init_da8c8 3 = .ok (.invokespecial 1, 3) := dk_183 (dq_lk dJ4_init_da8c8_w0 (r := 3) (x := 183) rfl) (dq_lk dJ4_init_da8c8_w0 (r := 4) (x := 0) rfl) (dq_lk dJ4_init_da8c8_w0 (r := 5) (x := 1) rfl)
theorem dJ4_init_da8c8_6 : decode cJ4_init_da8c8 6 = .ok (.return_, 1) := dk_177 (dq_lk dJ4_init_da8c8_w0 (r := 6) (x := 177) rfl)
theorem dJ5_init_d00df_w0 : (cJ5_init_d00df.data.toList.drop 0).take 64 = [42, 183, 0, 3, 178, 0, 18, 153, 0, 18, 42, 27, 188, 8, 181, 0, 15, 42, 3, 181, 0, 22, 167, 0, 16, 42, 27, 184, 0, 26, 181, 0, 15, 42, 4, 181, 0, 22, 177] := by decide +kernel
theorem dJ5_init_d00df_0 : decode cJ5_init_d00df 0 = .ok (.aload_n 0, 1) := dk_42 (dq_lk dJ5_init_d00df_w0 (r := 0) (x := 42) rfl)
theorem dJ5_init_d00df_1 : decode cJ5_init_d00df 1 = .ok (.invokespecial 3, 3) := dk_183 (dq_lk dJ5_init_d00df_w0 (r := 1) (x := 183) rfl) (dq_lk dJ5_init_d00df_w0 (r := 2) (x := 0) rfl) (dq_lk dJ5_init_d00df_w0 (r := 3) (x := 3) rfl)
theorem dJ5_init_d00df_4 : decode cJ5_init_d00df 4 = .ok (.getstatic 18, 3) := dk_178 (dq_lk dJ5_init_d00df_w0 (r := 4) (x := 178) rfl) (dq_lk dJ5_init_d00df_w0 (r := 5) (x := 0) rfl) (dq_lk dJ5_init_d00df_w0 (r := 6) (x := 18) rfl)
theorem dJ5_init_d00df_7 : decode cJ5_init_d00df 7 = .ok (.ifCond .eq 18, 3) := dk_153 (dq_lk dJ5_init_d00df_w0 (r := 7) (x := 153) rfl) (dq_lk dJ5_init_d00df_w0 (r := 8) (x := 0) rfl) (dq_lk dJ5_init_d00df_w0 (r := 9) (x := 18) rfl) (by decide +kernel)
theorem dJ5_init_d00df_10 : decode cJ5_init_d00df 10 = .ok (.aload_n 0, 1) := dk_42 (dq_lk dJ5_init_d00df_w0 (r := 10) (x := 42) rfl)
theorem dJ5_init_d00df_11 : decode cJ5_init_d00df 11 = .ok (.iload_n 1, 1) := dk_27 (dq_lk dJ5_init_d00df_w0 (r := 11) (x := 27) rfl)
theorem dJ5_init_d00df_12 : decode cJ5_init_d00df 12 = .ok (.newarray .byte, 2) := by decide +kernel
theorem dJ5_init_d00df_14 : decode cJ5_init_d00df 14 = .ok (.putfield 15, 3) := dk_181 (dq_lk dJ5_init_d00df_w0 (r := 14) (x := 181) rfl) (dq_lk dJ5_init_d00df_w0 (r := 15) (x := 0) rfl) (dq_lk dJ5_init_d00df_w0 (r := 16) (x := 15) rfl)
theorem dJ5_init_d00df_17 : decode cJ5_init_d00df 17 = .ok (.aload_n 0, 1) := dk_42 (dq_lk dJ5_init_d00df_w0 (r := 17) (x := 42) rfl)
theorem dJ5_init_d00df_18 : decode cJ5_init_d00df 18 = .ok (.iconst 0, 1) := dk_3 (dq_lk dJ5_init_d00df_w0 (r := 18) (x := 3) rfl)
theorem dJ5_init_d00df_19 : decode cJ5_init_d00df 19 = .ok (.putfield 22, 3) := dk_181 (dq_lk dJ5_init_d00df_w0 (r := 19) (x := 181) rfl) (dq_lk dJ5_init_d00df_w0 (r := 20) (x := 0) rfl) (dq_lk dJ5_init_d00df_w0 (r := 21) (x := 22) rfl)
theorem dJ5_init_d00df_22 : decode cJ5_init_d00df 22 = .ok (.goto 16, 3) := dk_167 (dq_lk dJ5_init_d00df_w0 (r := 22) (x := 167) rfl) (dq_lk dJ5_init_d00df_w0 (r := 23) (x := 0) rfl) (dq_lk dJ5_init_d00df_w0 (r := 24) (x := 16) rfl) (by decide +kernel)
theorem dJ5_init_d00df_38 : decode cJ5_init_d00df 38 = .ok (.return_, 1) := dk_177 (dq_lk dJ5_init_d00df_w0 (r := 38) (x := 177) rfl)
theorem dJ4_append_cf468_w0 : (cJ4_append_cf468.data.toList.drop 0).take 64 = [42, 27, 183, 0, 50, 87, 42, 176] := by decide +kernel
theorem dJ4_append_cf468_0 : decode cJ4_append_cf468 0 = .ok (.aload_n 0, 1) := dk_42 (dq_lk dJ4_append_cf468_w0 (r := 0) (x := 42) rfl)
theorem dJ4_append_cf468_1 : decode cJ4_append_cf468 1 = .ok (.iload_n 1, 1) := dk_27 (dq_lk dJ4_append_cf468_w0 (r := 1) (x := 27) rfl)
theorem dJ4_append_cf468_2 : decode cJ4_append_cf468 2 = .ok (.invokespecial 50, 3) := dk_183 (dq_lk dJ4_append_cf468_w0 (r := 2) (x := 183) rfl) (dq_lk dJ4_append_cf468_w0 (r := 3) (x := 0) rfl) (dq_lk dJ4_append_cf468_w0 (r := 4) (x := 50) rfl)
theorem dJ4_append_cf468_5 : decode cJ4_append_cf468 5 = .ok (.pop, 1) := dk_87 (dq_lk dJ4_append_cf468_w0 (r := 5) (x := 87) rfl)
theorem dJ4_append_cf468_6 : decode cJ4_append_cf468 6 = .ok (.aload_n 0, 1) := dk_42 (dq_lk dJ4_append_cf468_w0 (r := 6) (x := 42) rfl)
theorem dJ4_append_cf468_7 : decode cJ4_append_cf468 7 = .ok (.areturn, 1) := dk_176 (dq_lk dJ4_append_cf468_w0 (r := 7) (x := 176) rfl)
theorem dJ5_append_3fe6f_w0 : (cJ5_append_3fe6f.data.toList.drop 0).take 64 = [42, 42, 180, 0, 79, 4, 96, 182, 0, 100, 42, 182, 0, 83, 153, 0, 31, 27, 184, 0, 191, 153, 0, 24, 42, 180, 0, 15, 42, 89, 180, 0, 79, 90, 4, 96, 181, 0, 79, 27, 145, 84, 167, 0, 33, 42, 182, 0, 83, 153, 0, 7, 42, 182, 0, 195, 42, 180, 0, 15, 42, 89, 180, 0] := by decide +kernel
theorem dJ5_append_3fe6f_w1 : (cJ5_append_3fe6f.data.toList.drop 64).take 64 = [79, 90, 4, 96, 181, 0, 79, 27, 184, 0, 197, 42, 176] := by decide +kernel
theorem dJ5_append_3fe6f_0 : decode cJ5_append_3fe6f 0 = .ok (.aload_n 0, 1) := dk_42 (dq_lk dJ5_append_3fe6f_w0 (r := 0) (x := 42) rfl)
theorem dJ5_append_3fe6f_1 : decode cJ5_append_3fe6f 1 = .ok (.aload_n 0, 1) := dk_42 (dq_lk dJ5_append_3fe6f_w0 (r := 1) (x := 42) rfl)
theorem dJ5_append_3fe6f_2 : decode cJ5_append_3fe6f 2 = .ok (.getfield 79, 3) := dk_180 (dq_lk dJ5_append_3fe6f_w0 (r := 2) (x := 180) rfl) (dq_lk dJ5_append_3fe6f_w0 (r := 3) (x := 0) rfl) (dq_lk dJ5_append_3fe6f_w0 (r := 4) (x := 79) rfl)
theorem dJ5_append_3fe6f_5 : decode cJ5_append_3fe6f 5 = .ok (.iconst 1, 1) := dk_4 (dq_lk dJ5_append_3fe6f_w0 (r := 5) (x := 4) rfl)
theorem dJ5_append_3fe6f_6 : decode cJ5_append_3fe6f 6 = .ok (.iadd, 1) := dk_96 (dq_lk dJ5_append_3fe6f_w0 (r := 6) (x := 96) rfl)
theorem dJ5_append_3fe6f_7 : decode cJ5_append_3fe6f 7 = .ok (.invokevirtual 100, 3) := dk_182 (dq_lk dJ5_append_3fe6f_w0 (r := 7) (x := 182) rfl) (dq_lk dJ5_append_3fe6f_w0 (r := 8) (x := 0) rfl) (dq_lk dJ5_append_3fe6f_w0 (r := 9) (x := 100) rfl)
theorem dJ5_append_3fe6f_10 : decode cJ5_append_3fe6f 10 = .ok (.aload_n 0, 1) := dk_42 (dq_lk dJ5_append_3fe6f_w0 (r := 10) (x := 42) rfl)
theorem dJ5_append_3fe6f_11 : decode cJ5_append_3fe6f 11 = .ok (.invokevirtual 83, 3) := dk_182 (dq_lk dJ5_append_3fe6f_w0 (r := 11) (x := 182) rfl) (dq_lk dJ5_append_3fe6f_w0 (r := 12) (x := 0) rfl) (dq_lk dJ5_append_3fe6f_w0 (r := 13) (x := 83) rfl)
theorem dJ5_append_3fe6f_14 : decode cJ5_append_3fe6f 14 = .ok (.ifCond .eq 31, 3) := dk_153 (dq_lk dJ5_append_3fe6f_w0 (r := 14) (x := 153) rfl) (dq_lk dJ5_append_3fe6f_w0 (r := 15) (x := 0) rfl) (dq_lk dJ5_append_3fe6f_w0 (r := 16) (x := 31) rfl) (by decide +kernel)
theorem dJ5_append_3fe6f_17 : decode cJ5_append_3fe6f 17 = .ok (.iload_n 1, 1) := dk_27 (dq_lk dJ5_append_3fe6f_w0 (r := 17) (x := 27) rfl)
theorem dJ5_append_3fe6f_18 : decode cJ5_append_3fe6f 18 = .ok (.invokestatic 191, 3) := dk_184 (dq_lk dJ5_append_3fe6f_w0 (r := 18) (x := 184) rfl) (dq_lk dJ5_append_3fe6f_w0 (r := 19) (x := 0) rfl) (dq_lk dJ5_append_3fe6f_w0 (r := 20) (x := 191) rfl)
theorem dJ5_append_3fe6f_21 : decode cJ5_append_3fe6f 21 = .ok (.ifCond .eq 24, 3) := dk_153 (dq_lk dJ5_append_3fe6f_w0 (r := 21) (x := 153) rfl) (dq_lk dJ5_append_3fe6f_w0 (r := 22) (x := 0) rfl) (dq_lk dJ5_append_3fe6f_w0 (r := 23) (x := 24) rfl) (by decide +kernel)
theorem dJ5_append_3fe6f_24 : decode cJ5_append_3fe6f 24 = .ok (.aload_n 0, 1) := dk_42 (dq_lk dJ5_append_3fe6f_w0 (r := 24) (x := 42) rfl)
theorem dJ5_append_3fe6f_25 : decode cJ5_append_3fe6f 25 = .ok (.getfield 15, 3) := dk_180 (dq_lk dJ5_append_3fe6f_w0 (r := 25) (x := 180) rfl) (dq_lk dJ5_append_3fe6f_w0 (r := 26) (x := 0) rfl) (dq_lk dJ5_append_3fe6f_w0 (r := 27) (x := 15) rfl)
theorem dJ5_append_3fe6f_28 : decode cJ5_append_3fe6f 28 = .ok (.aload_n 0, 1) := dk_42 (dq_lk dJ5_append_3fe6f_w0 (r := 28) (x := 42) rfl)
theorem dJ5_append_3fe6f_29 : decode cJ5_append_3fe6f 29 = .ok (.dup, 1) := dk_89 (dq_lk dJ5_append_3fe6f_w0 (r := 29) (x := 89) rfl)
theorem dJ5_append_3fe6f_30 : decode cJ5_append_3fe6f 30 = .ok (.getfield 79, 3) := dk_180 (dq_lk dJ5_append_3fe6f_w0 (r := 30) (x := 180) rfl) (dq_lk dJ5_append_3fe6f_w0 (r := 31) (x := 0) rfl) (dq_lk dJ5_append_3fe6f_w0 (r := 32) (x := 79) rfl)
theorem dJ5_append_3fe6f_33 : decode cJ5_append_3fe6f 33 = .ok (.dup_x1, 1) := dk_90 (dq_lk dJ5_append_3fe6f_w0 (r := 33) (x := 90) rfl)
theorem dJ5_append_3fe6f_34 : decode cJ5_append_3fe6f 34 = .ok (.iconst 1, 1) := dk_4 (dq_lk dJ5_append_3fe6f_w0 (r := 34) (x := 4) rfl)
theorem dJ5_append_3fe6f_35 : decode cJ5_append_3fe6f 35 = .ok (.iadd, 1) := dk_96 (dq_lk dJ5_append_3fe6f_w0 (r := 35) (x := 96) rfl)
theorem dJ5_append_3fe6f_36 : decode cJ5_append_3fe6f 36 = .ok (.putfield 79, 3) := dk_181 (dq_lk dJ5_append_3fe6f_w0 (r := 36) (x := 181) rfl) (dq_lk dJ5_append_3fe6f_w0 (r := 37) (x := 0) rfl) (dq_lk dJ5_append_3fe6f_w0 (r := 38) (x := 79) rfl)
theorem dJ5_append_3fe6f_39 : decode cJ5_append_3fe6f 39 = .ok (.iload_n 1, 1) := dk_27 (dq_lk dJ5_append_3fe6f_w0 (r := 39) (x := 27) rfl)
theorem dJ5_append_3fe6f_40 : decode cJ5_append_3fe6f 40 = .ok (.i2b, 1) := dk_145 (dq_lk dJ5_append_3fe6f_w0 (r := 40) (x := 145) rfl)
theorem dJ5_append_3fe6f_41 : decode cJ5_append_3fe6f 41 = .ok (.bastore, 1) := dk_84 (dq_lk dJ5_append_3fe6f_w0 (r := 41) (x := 84) rfl)
theorem dJ5_append_3fe6f_42 : decode cJ5_append_3fe6f 42 = .ok (.goto 33, 3) := dk_167 (dq_lk dJ5_append_3fe6f_w0 (r := 42) (x := 167) rfl) (dq_lk dJ5_append_3fe6f_w0 (r := 43) (x := 0) rfl) (dq_lk dJ5_append_3fe6f_w0 (r := 44) (x := 33) rfl) (by decide +kernel)
theorem dJ5_append_3fe6f_75 : decode cJ5_append_3fe6f 75 = .ok (.aload_n 0, 1) := dk_42 (dq_lk dJ5_append_3fe6f_w1 (r := 11) (x := 42) rfl)
theorem dJ5_append_3fe6f_76 : decode cJ5_append_3fe6f 76 = .ok (.areturn, 1) := dk_176 (dq_lk dJ5_append_3fe6f_w1 (r := 12) (x := 176) rfl)
theorem dJ5_ensureCapacityInternal_d00df_w0 : (cJ5_ensureCapacityInternal_d00df.data.toList.drop 0).take 64 = [42, 180, 0, 15, 190, 42, 180, 0, 22, 122, 61, 27, 28, 100, 158, 0, 24, 42, 42, 180, 0, 15, 42, 27, 182, 0, 104, 42, 180, 0, 22, 120, 184, 0, 108, 181, 0, 15, 177] := by decide +kernel
theorem dJ5_ensureCapacityInternal_d00df_0 : decode cJ5_ensureCapacityInternal_d00df 0 = .ok (.aload_n 0, 1) := dk_42 (dq_lk dJ5_ensureCapacityInternal_d00df_w0 (r := 0) (x := 42) rfl)
theorem dJ5_ensureCapacityInternal_d00df_1 : decode cJ5_ensureCapacityInternal_d00df 1 = .ok (.getfield 15, 3) := dk_180 (dq_lk dJ5_ensureCapacityInternal_d00df_w0 (r := 1) (x := 180) rfl) (dq_lk dJ5_ensureCapacityInternal_d00df_w0 (r := 2) (x := 0) rfl) (dq_lk dJ5_ensureCapacityInternal_d00df_w0 (r := 3) (x := 15) rfl)
theorem dJ5_ensureCapacityInternal_d00df_4 : decode cJ5_ensureCapacityInternal_d00df 4 = .ok (.arraylength, 1) := dk_190 (dq_lk dJ5_ensureCapacityInternal_d00df_w0 (r := 4) (x := 190) rfl)
theorem dJ5_ensureCapacityInternal_d00df_5 : decode cJ5_ensureCapacityInternal_d00df 5 = .ok (.aload_n 0, 1) := dk_42 (dq_lk dJ5_ensureCapacityInternal_d00df_w0 (r := 5) (x := 42) rfl)
theorem dJ5_ensureCapacityInternal_d00df_6 : decode cJ5_ensureCapacityInternal_d00df 6 = .ok (.getfield 22, 3) := dk_180 (dq_lk dJ5_ensureCapacityInternal_d00df_w0 (r := 6) (x := 180) rfl) (dq_lk dJ5_ensureCapacityInternal_d00df_w0 (r := 7) (x := 0) rfl) (dq_lk dJ5_ensureCapacityInternal_d00df_w0 (r := 8) (x := 22) rfl)
theorem dJ5_ensureCapacityInternal_d00df_9 : decode cJ5_ensureCapacityInternal_d00df 9 = .ok (.ishr, 1) := dk_122 (dq_lk dJ5_ensureCapacityInternal_d00df_w0 (r := 9) (x := 122) rfl)
theorem dJ5_ensureCapacityInternal_d00df_10 : decode cJ5_ensureCapacityInternal_d00df 10 = .ok (.istore_n 2, 1) := dk_61 (dq_lk dJ5_ensureCapacityInternal_d00df_w0 (r := 10) (x := 61) rfl)
theorem dJ5_ensureCapacityInternal_d00df_11 : decode cJ5_ensureCapacityInternal_d00df 11 = .ok (.iload_n 1, 1) := dk_27 (dq_lk dJ5_ensureCapacityInternal_d00df_w0 (r := 11) (x := 27) rfl)
theorem dJ5_ensureCapacityInternal_d00df_12 : decode cJ5_ensureCapacityInternal_d00df 12 = .ok (.iload_n 2, 1) := dk_28 (dq_lk dJ5_ensureCapacityInternal_d00df_w0 (r := 12) (x := 28) rfl)
theorem dJ5_ensureCapacityInternal_d00df_13 : decode cJ5_ensureCapacityInternal_d00df 13 = .ok (.isub, 1) := dk_100 (dq_lk dJ5_ensureCapacityInternal_d00df_w0 (r := 13) (x := 100) rfl)
theorem dJ5_ensureCapacityInternal_d00df_14 : decode cJ5_ensureCapacityInternal_d00df 14 = .ok (.ifCond .le 24, 3) := dk_158 (dq_lk dJ5_ensureCapacityInternal_d00df_w0 (r := 14) (x := 158) rfl) (dq_lk dJ5_ensureCapacityInternal_d00df_w0 (r := 15) (x := 0) rfl) (dq_lk dJ5_ensureCapacityInternal_d00df_w0 (r := 16) (x := 24) rfl) (by decide +kernel)
theorem dJ5_ensureCapacityInternal_d00df_17 : decode cJ5_ensureCapacityInternal_d00df 17 = .ok (.aload_n 0, 1) := dk_42 (dq_lk dJ5_ensureCapacityInternal_d00df_w0 (r := 17) (x := 42) rfl)
theorem dJ5_ensureCapacityInternal_d00df_18 : decode cJ5_ensureCapacityInternal_d00df 18 = .ok (.aload_n 0, 1) := dk_42 (dq_lk dJ5_ensureCapacityInternal_d00df_w0 (r := 18) (x := 42) rfl)
theorem dJ5_ensureCapacityInternal_d00df_19 : decode cJ5_ensureCapacityInternal_d00df 19 = .ok (.getfield 15, 3) := dk_180 (dq_lk dJ5_ensureCapacityInternal_d00df_w0 (r := 19) (x := 180) rfl) (dq_lk dJ5_ensureCapacityInternal_d00df_w0 (r := 20) (x := 0) rfl) (dq_lk dJ5_ensureCapacityInternal_d00df_w0 (r := 21) (x := 15) rfl)
theorem dJ5_ensureCapacityInternal_d00df_22 : decode cJ5_ensureCapacityInternal_d00df 22 = .ok (.aload_n 0, 1) := dk_42 (dq_lk dJ5_ensureCapacityInternal_d00df_w0 (r := 22) (x := 42) rfl)
theorem dJ5_ensureCapacityInternal_d00df_23 : decode cJ5_ensureCapacityInternal_d00df 23 = .ok (.iload_n 1, 1) := dk_27 (dq_lk dJ5_ensureCapacityInternal_d00df_w0 (r := 23) (x := 27) rfl)
theorem dJ5_ensureCapacityInternal_d00df_24 : decode cJ5_ensureCapacityInternal_d00df 24 = .ok (.invokevirtual 104, 3) := dk_182 (dq_lk dJ5_ensureCapacityInternal_d00df_w0 (r := 24) (x := 182) rfl) (dq_lk dJ5_ensureCapacityInternal_d00df_w0 (r := 25) (x := 0) rfl) (dq_lk dJ5_ensureCapacityInternal_d00df_w0 (r := 26) (x := 104) rfl)
theorem dJ5_ensureCapacityInternal_d00df_27 : decode cJ5_ensureCapacityInternal_d00df 27 = .ok (.aload_n 0, 1) := dk_42 (dq_lk dJ5_ensureCapacityInternal_d00df_w0 (r := 27) (x := 42) rfl)
theorem dJ5_ensureCapacityInternal_d00df_28 : decode cJ5_ensureCapacityInternal_d00df 28 = .ok (.getfield 22, 3) := dk_180 (dq_lk dJ5_ensureCapacityInternal_d00df_w0 (r := 28) (x := 180) rfl) (dq_lk dJ5_ensureCapacityInternal_d00df_w0 (r := 29) (x := 0) rfl) (dq_lk dJ5_ensureCapacityInternal_d00df_w0 (r := 30) (x := 22) rfl)
theorem dJ5_ensureCapacityInternal_d00df_31 : decode cJ5_ensureCapacityInternal_d00df 31 = .ok (.ishl, 1) := dk_120 (dq_lk dJ5_ensureCapacityInternal_d00df_w0 (r := 31) (x := 120) rfl)
theorem dJ5_ensureCapacityInternal_d00df_32 : decode cJ5_ensureCapacityInternal_d00df 32 = .ok (.invokestatic 108, 3) := dk_184 (dq_lk dJ5_ensureCapacityInternal_d00df_w0 (r := 32) (x := 184) rfl) (dq_lk dJ5_ensureCapacityInternal_d00df_w0 (r := 33) (x := 0) rfl) (dq_lk dJ5_ensureCapacityInternal_d00df_w0 (r := 34) (x := 108) rfl)
theorem dJ5_ensureCapacityInternal_d00df_35 : decode cJ5_ensureCapacityInternal_d00df 35 = .ok (.putfield 15, 3) := dk_181 (dq_lk dJ5_ensureCapacityInternal_d00df_w0 (r := 35) (x := 181) rfl) (dq_lk dJ5_ensureCapacityInternal_d00df_w0 (r := 36) (x := 0) rfl) (dq_lk dJ5_ensureCapacityInternal_d00df_w0 (r := 37) (x := 15) rfl)
theorem dJ5_ensureCapacityInternal_d00df_38 : decode cJ5_ensureCapacityInternal_d00df 38 = .ok (.return_, 1) := dk_177 (dq_lk dJ5_ensureCapacityInternal_d00df_w0 (r := 38) (x := 177) rfl)
theorem dJ5_newCapacity_0f7a4_w0 : (cJ5_newCapacity_0f7a4.data.toList.drop 0).take 64 = [42, 180, 0, 15, 190, 61, 27, 42, 180, 0, 22, 120, 62, 29, 28, 100, 54, 4, 28, 21, 4, 28, 5, 42, 180, 0, 22, 120, 96, 184, 0, 114, 54, 5, 21, 5, 18, 39, 160, 0, 13, 187, 0, 120, 89, 18, 122, 183, 0, 124, 191, 21, 5, 42, 180, 0, 22, 122, 172] := by decide +kernel
theorem dJ5_newCapacity_0f7a4_0 : decode cJ5_newCapacity_0f7a4 0 = .ok (.aload_n 0, 1) := dk_42 (dq_lk dJ5_newCapacity_0f7a4_w0 (r := 0) (x := 42) rfl)
theorem dJ5_newCapacity_0f7a4_1 : decode cJ5_newCapacity_0f7a4 1 = .ok (.getfield 15, 3) := dk_180 (dq_lk dJ5_newCapacity_0f7a4_w0 (r := 1) (x := 180) rfl) (dq_lk dJ5_newCapacity_0f7a4_w0 (r := 2) (x := 0) rfl) (dq_lk dJ5_newCapacity_0f7a4_w0 (r := 3) (x := 15) rfl)
theorem dJ5_newCapacity_0f7a4_4 : decode cJ5_newCapacity_0f7a4 4 = .ok (.arraylength, 1) := dk_190 (dq_lk dJ5_newCapacity_0f7a4_w0 (r := 4) (x := 190) rfl)
theorem dJ5_newCapacity_0f7a4_5 : decode cJ5_newCapacity_0f7a4 5 = .ok (.istore_n 2, 1) := dk_61 (dq_lk dJ5_newCapacity_0f7a4_w0 (r := 5) (x := 61) rfl)
theorem dJ5_newCapacity_0f7a4_6 : decode cJ5_newCapacity_0f7a4 6 = .ok (.iload_n 1, 1) := dk_27 (dq_lk dJ5_newCapacity_0f7a4_w0 (r := 6) (x := 27) rfl)
theorem dJ5_newCapacity_0f7a4_7 : decode cJ5_newCapacity_0f7a4 7 = .ok (.aload_n 0, 1) := dk_42 (dq_lk dJ5_newCapacity_0f7a4_w0 (r := 7) (x := 42) rfl)
theorem dJ5_newCapacity_0f7a4_8 : decode cJ5_newCapacity_0f7a4 8 = .ok (.getfield 22, 3) := dk_180 (dq_lk dJ5_newCapacity_0f7a4_w0 (r := 8) (x := 180) rfl) (dq_lk dJ5_newCapacity_0f7a4_w0 (r := 9) (x := 0) rfl) (dq_lk dJ5_newCapacity_0f7a4_w0 (r := 10) (x := 22) rfl)
theorem dJ5_newCapacity_0f7a4_11 : decode cJ5_newCapacity_0f7a4 11 = .ok (.ishl, 1) := dk_120 (dq_lk dJ5_newCapacity_0f7a4_w0 (r := 11) (x := 120) rfl)
theorem dJ5_newCapacity_0f7a4_12 : decode cJ5_newCapacity_0f7a4 12 = .ok (.istore_n 3, 1) := dk_62 (dq_lk dJ5_newCapacity_0f7a4_w0 (r := 12) (x := 62) rfl)
theorem dJ5_newCapacity_0f7a4_13 : decode cJ5_newCapacity_0f7a4 13 = .ok (.iload_n 3, 1) := dk_29 (dq_lk dJ5_newCapacity_0f7a4_w0 (r := 13) (x := 29) rfl)
theorem dJ5_newCapacity_0f7a4_14 : decode cJ5_newCapacity_0f7a4 14 = .ok (.iload_n 2, 1) := dk_28 (dq_lk dJ5_newCapacity_0f7a4_w0 (r := 14) (x := 28) rfl)
theorem dJ5_newCapacity_0f7a4_15 : decode cJ5_newCapacity_0f7a4 15 = .ok (.isub, 1) := dk_100 (dq_lk dJ5_newCapacity_0f7a4_w0 (r := 15) (x := 100) rfl)
theorem dJ5_newCapacity_0f7a4_16 : decode cJ5_newCapacity_0f7a4 16 = .ok (.istore 4, 2) := dk_54 (dq_lk dJ5_newCapacity_0f7a4_w0 (r := 16) (x := 54) rfl) (dq_lk dJ5_newCapacity_0f7a4_w0 (r := 17) (x := 4) rfl)
theorem dJ5_newCapacity_0f7a4_18 : decode cJ5_newCapacity_0f7a4 18 = .ok (.iload_n 2, 1) := dk_28 (dq_lk dJ5_newCapacity_0f7a4_w0 (r := 18) (x := 28) rfl)
theorem dJ5_newCapacity_0f7a4_19 : decode cJ5_newCapacity_0f7a4 19 = .ok (.iload 4, 2) := dk_21 (dq_lk dJ5_newCapacity_0f7a4_w0 (r := 19) (x := 21) rfl) (dq_lk dJ5_newCapacity_0f7a4_w0 (r := 20) (x := 4) rfl)
theorem dJ5_newCapacity_0f7a4_21 : decode cJ5_newCapacity_0f7a4 21 = .ok (.iload_n 2, 1) := dk_28 (dq_lk dJ5_newCapacity_0f7a4_w0 (r := 21) (x := 28) rfl)
theorem dJ5_newCapacity_0f7a4_22 : decode cJ5_newCapacity_0f7a4 22 = .ok (.iconst 2, 1) := dk_5 (dq_lk dJ5_newCapacity_0f7a4_w0 (r := 22) (x := 5) rfl)
theorem dJ5_newCapacity_0f7a4_23 : decode cJ5_newCapacity_0f7a4 23 = .ok (.aload_n 0, 1) := dk_42 (dq_lk dJ5_newCapacity_0f7a4_w0 (r := 23) (x := 42) rfl)
theorem dJ5_newCapacity_0f7a4_24 : decode cJ5_newCapacity_0f7a4 24 = .ok (.getfield 22, 3) := dk_180 (dq_lk dJ5_newCapacity_0f7a4_w0 (r := 24) (x := 180) rfl) (dq_lk dJ5_newCapacity_0f7a4_w0 (r := 25) (x := 0) rfl) (dq_lk dJ5_newCapacity_0f7a4_w0 (r := 26) (x := 22) rfl)
theorem dJ5_newCapacity_0f7a4_27 : decode cJ5_newCapacity_0f7a4 27 = .ok (.ishl, 1) := dk_120 (dq_lk dJ5_newCapacity_0f7a4_w0 (r := 27) (x := 120) rfl)
theorem dJ5_newCapacity_0f7a4_28 : decode cJ5_newCapacity_0f7a4 28 = .ok (.iadd, 1) := dk_96 (dq_lk dJ5_newCapacity_0f7a4_w0 (r := 28) (x := 96) rfl)
theorem dJ5_newCapacity_0f7a4_29 : decode cJ5_newCapacity_0f7a4 29 = .ok (.invokestatic 114, 3) := dk_184 (dq_lk dJ5_newCapacity_0f7a4_w0 (r := 29) (x := 184) rfl) (dq_lk dJ5_newCapacity_0f7a4_w0 (r := 30) (x := 0) rfl) (dq_lk dJ5_newCapacity_0f7a4_w0 (r := 31) (x := 114) rfl)
theorem dJ5_newCapacity_0f7a4_32 : decode cJ5_newCapacity_0f7a4 32 = .ok (.istore 5, 2) := dk_54 (dq_lk dJ5_newCapacity_0f7a4_w0 (r := 32) (x := 54) rfl) (dq_lk dJ5_newCapacity_0f7a4_w0 (r := 33) (x := 5) rfl)
theorem dJ5_newCapacity_0f7a4_34 : decode cJ5_newCapacity_0f7a4 34 = .ok (.iload 5, 2) := dk_21 (dq_lk dJ5_newCapacity_0f7a4_w0 (r := 34) (x := 21) rfl) (dq_lk dJ5_newCapacity_0f7a4_w0 (r := 35) (x := 5) rfl)
theorem dJ5_newCapacity_0f7a4_36 : decode cJ5_newCapacity_0f7a4 36 = .ok (.ldc 39, 2) := dk_18 (dq_lk dJ5_newCapacity_0f7a4_w0 (r := 36) (x := 18) rfl) (dq_lk dJ5_newCapacity_0f7a4_w0 (r := 37) (x := 39) rfl)
theorem dJ5_newCapacity_0f7a4_38 : decode cJ5_newCapacity_0f7a4 38 = .ok (.if_icmp .ne 13, 3) := dk_160 (dq_lk dJ5_newCapacity_0f7a4_w0 (r := 38) (x := 160) rfl) (dq_lk dJ5_newCapacity_0f7a4_w0 (r := 39) (x := 0) rfl) (dq_lk dJ5_newCapacity_0f7a4_w0 (r := 40) (x := 13) rfl) (by decide +kernel)
theorem dJ5_newCapacity_0f7a4_51 : decode cJ5_newCapacity_0f7a4 51 = .ok (.iload 5, 2) := dk_21 (dq_lk dJ5_newCapacity_0f7a4_w0 (r := 51) (x := 21) rfl) (dq_lk dJ5_newCapacity_0f7a4_w0 (r := 52) (x := 5) rfl)
theorem dJ5_newCapacity_0f7a4_53 : decode cJ5_newCapacity_0f7a4 53 = .ok (.aload_n 0, 1) := dk_42 (dq_lk dJ5_newCapacity_0f7a4_w0 (r := 53) (x := 42) rfl)
theorem dJ5_newCapacity_0f7a4_54 : decode cJ5_newCapacity_0f7a4 54 = .ok (.getfield 22, 3) := dk_180 (dq_lk dJ5_newCapacity_0f7a4_w0 (r := 54) (x := 180) rfl) (dq_lk dJ5_newCapacity_0f7a4_w0 (r := 55) (x := 0) rfl) (dq_lk dJ5_newCapacity_0f7a4_w0 (r := 56) (x := 22) rfl)
theorem dJ5_newCapacity_0f7a4_57 : decode cJ5_newCapacity_0f7a4 57 = .ok (.ishr, 1) := dk_122 (dq_lk dJ5_newCapacity_0f7a4_w0 (r := 57) (x := 122) rfl)
theorem dJ5_newCapacity_0f7a4_58 : decode cJ5_newCapacity_0f7a4 58 = .ok (.ireturn, 1) := dk_172 (dq_lk dJ5_newCapacity_0f7a4_w0 (r := 58) (x := 172) rfl)
theorem dJ8_newLength_cabcc_w0 : (cJ8_newLength_cabcc.data.toList.drop 0).take 64 = [26, 27, 28, 184, 0, 194, 96, 62, 3, 29, 162, 0, 11, 29, 18, 200, 163, 0, 5, 29, 172, 26, 27, 184, 0, 201, 172] := by decide +kernel
theorem dJ8_newLength_cabcc_0 : decode cJ8_newLength_cabcc 0 = .ok (.iload_n 0, 1) := dk_26 (dq_lk dJ8_newLength_cabcc_w0 (r := 0) (x := 26) rfl)
theorem dJ8_newLength_cabcc_1 : decode cJ8_newLength_cabcc 1 = .ok (.iload_n 1, 1) := dk_27 (dq_lk dJ8_newLength_cabcc_w0 (r := 1) (x := 27) rfl)
theorem dJ8_newLength_cabcc_2 : decode cJ8_newLength_cabcc 2 = .ok (.iload_n 2, 1) := dk_28 (dq_lk dJ8_newLength_cabcc_w0 (r := 2) (x := 28) rfl)
theorem dJ8_newLength_cabcc_3 : decode cJ8_newLength_cabcc 3 = .ok (.invokestatic 194, 3) := dk_184 (dq_lk dJ8_newLength_cabcc_w0 (r := 3) (x := 184) rfl) (dq_lk dJ8_newLength_cabcc_w0 (r := 4) (x := 0) rfl) (dq_lk dJ8_newLength_cabcc_w0 (r := 5) (x := 194) rfl)
theorem dJ8_newLength_cabcc_6 : decode cJ8_newLength_cabcc 6 = .ok (.iadd, 1) := dk_96 (dq_lk dJ8_newLength_cabcc_w0 (r := 6) (x := 96) rfl)
theorem dJ8_newLength_cabcc_7 : decode cJ8_newLength_cabcc 7 = .ok (.istore_n 3, 1) := dk_62 (dq_lk dJ8_newLength_cabcc_w0 (r := 7) (x := 62) rfl)
theorem dJ8_newLength_cabcc_8 : decode cJ8_newLength_cabcc 8 = .ok (.iconst 0, 1) := dk_3 (dq_lk dJ8_newLength_cabcc_w0 (r := 8) (x := 3) rfl)
theorem dJ8_newLength_cabcc_9 : decode cJ8_newLength_cabcc 9 = .ok (.iload_n 3, 1) := dk_29 (dq_lk dJ8_newLength_cabcc_w0 (r := 9) (x := 29) rfl)
theorem dJ8_newLength_cabcc_10 : decode cJ8_newLength_cabcc 10 = .ok (.if_icmp .ge 11, 3) := dk_162 (dq_lk dJ8_newLength_cabcc_w0 (r := 10) (x := 162) rfl) (dq_lk dJ8_newLength_cabcc_w0 (r := 11) (x := 0) rfl) (dq_lk dJ8_newLength_cabcc_w0 (r := 12) (x := 11) rfl) (by decide +kernel)
theorem dJ8_newLength_cabcc_13 : decode cJ8_newLength_cabcc 13 = .ok (.iload_n 3, 1) := dk_29 (dq_lk dJ8_newLength_cabcc_w0 (r := 13) (x := 29) rfl)
theorem dJ8_newLength_cabcc_14 : decode cJ8_newLength_cabcc 14 = .ok (.ldc 200, 2) := dk_18 (dq_lk dJ8_newLength_cabcc_w0 (r := 14) (x := 18) rfl) (dq_lk dJ8_newLength_cabcc_w0 (r := 15) (x := 200) rfl)
theorem dJ8_newLength_cabcc_16 : decode cJ8_newLength_cabcc 16 = .ok (.if_icmp .gt 5, 3) := dk_163 (dq_lk dJ8_newLength_cabcc_w0 (r := 16) (x := 163) rfl) (dq_lk dJ8_newLength_cabcc_w0 (r := 17) (x := 0) rfl) (dq_lk dJ8_newLength_cabcc_w0 (r := 18) (x := 5) rfl) (by decide +kernel)
theorem dJ8_newLength_cabcc_19 : decode cJ8_newLength_cabcc 19 = .ok (.iload_n 3, 1) := dk_29 (dq_lk dJ8_newLength_cabcc_w0 (r := 19) (x := 29) rfl)
theorem dJ8_newLength_cabcc_20 : decode cJ8_newLength_cabcc 20 = .ok (.ireturn, 1) := dk_172 (dq_lk dJ8_newLength_cabcc_w0 (r := 20) (x := 172) rfl)
theorem dJ7_copyOf_9075b_w0 : (cJ7_copyOf_9075b.data.toList.drop 0).take 64 = [27, 42, 190, 160, 0, 11, 42, 182, 1, 54, 192, 1, 55, 176, 27, 188, 8, 77, 42, 3, 44, 3, 42, 190, 27, 184, 1, 48, 184, 0, 150, 44, 176] := by decide +kernel
theorem dJ7_copyOf_9075b_0 : decode cJ7_copyOf_9075b 0 = .ok (.iload_n 1, 1) := dk_27 (dq_lk dJ7_copyOf_9075b_w0 (r := 0) (x := 27) rfl)
theorem dJ7_copyOf_9075b_1 : decode cJ7_copyOf_9075b 1 = .ok (.aload_n 0, 1) := dk_42 (dq_lk dJ7_copyOf_9075b_w0 (r := 1) (x := 42) rfl)
theorem dJ7_copyOf_9075b_2 : decode cJ7_copyOf_9075b 2 = .ok (.arraylength, 1) := dk_190 (dq_lk dJ7_copyOf_9075b_w0 (r := 2) (x := 190) rfl)
theorem dJ7_copyOf_9075b_3 : decode cJ7_copyOf_9075b 3 = .ok (.if_icmp .ne 11, 3) := dk_160 (dq_lk dJ7_copyOf_9075b_w0 (r := 3) (x := 160) rfl) (dq_lk dJ7_copyOf_9075b_w0 (r := 4) (x := 0) rfl) (dq_lk dJ7_copyOf_9075b_w0 (r := 5) (x := 11) rfl) (by decide +kernel)
theorem dJ7_copyOf_9075b_14 : decode cJ7_copyOf_9075b 14 = .ok (.iload_n 1, 1) := dk_27 (dq_lk dJ7_copyOf_9075b_w0 (r := 14) (x := 27) rfl)
theorem dJ7_copyOf_9075b_15 : decode cJ7_copyOf_9075b 15 = .ok (.newarray .byte, 2) := by decide +kernel
theorem dJ7_copyOf_9075b_17 : decode cJ7_copyOf_9075b 17 = .ok (.astore_n 2, 1) := dk_77 (dq_lk dJ7_copyOf_9075b_w0 (r := 17) (x := 77) rfl)
theorem dJ7_copyOf_9075b_18 : decode cJ7_copyOf_9075b 18 = .ok (.aload_n 0, 1) := dk_42 (dq_lk dJ7_copyOf_9075b_w0 (r := 18) (x := 42) rfl)
theorem dJ7_copyOf_9075b_19 : decode cJ7_copyOf_9075b 19 = .ok (.iconst 0, 1) := dk_3 (dq_lk dJ7_copyOf_9075b_w0 (r := 19) (x := 3) rfl)
theorem dJ7_copyOf_9075b_20 : decode cJ7_copyOf_9075b 20 = .ok (.aload_n 2, 1) := dk_44 (dq_lk dJ7_copyOf_9075b_w0 (r := 20) (x := 44) rfl)
theorem dJ7_copyOf_9075b_21 : decode cJ7_copyOf_9075b 21 = .ok (.iconst 0, 1) := dk_3 (dq_lk dJ7_copyOf_9075b_w0 (r := 21) (x := 3) rfl)
theorem dJ7_copyOf_9075b_22 : decode cJ7_copyOf_9075b 22 = .ok (.aload_n 0, 1) := dk_42 (dq_lk dJ7_copyOf_9075b_w0 (r := 22) (x := 42) rfl)
theorem dJ7_copyOf_9075b_23 : decode cJ7_copyOf_9075b 23 = .ok (.arraylength, 1) := dk_190 (dq_lk dJ7_copyOf_9075b_w0 (r := 23) (x := 190) rfl)
theorem dJ7_copyOf_9075b_24 : decode cJ7_copyOf_9075b 24 = .ok (.iload_n 1, 1) := dk_27 (dq_lk dJ7_copyOf_9075b_w0 (r := 24) (x := 27) rfl)
theorem dJ7_copyOf_9075b_25 : decode cJ7_copyOf_9075b 25 = .ok (.invokestatic 304, 3) := dk_184 (dq_lk dJ7_copyOf_9075b_w0 (r := 25) (x := 184) rfl) (dq_lk dJ7_copyOf_9075b_w0 (r := 26) (x := 1) rfl) (dq_lk dJ7_copyOf_9075b_w0 (r := 27) (x := 48) rfl)
theorem dJ7_copyOf_9075b_28 : decode cJ7_copyOf_9075b 28 = .ok (.invokestatic 150, 3) := dk_184 (dq_lk dJ7_copyOf_9075b_w0 (r := 28) (x := 184) rfl) (dq_lk dJ7_copyOf_9075b_w0 (r := 29) (x := 0) rfl) (dq_lk dJ7_copyOf_9075b_w0 (r := 30) (x := 150) rfl)
theorem dJ7_copyOf_9075b_31 : decode cJ7_copyOf_9075b 31 = .ok (.aload_n 2, 1) := dk_44 (dq_lk dJ7_copyOf_9075b_w0 (r := 31) (x := 44) rfl)
theorem dJ7_copyOf_9075b_32 : decode cJ7_copyOf_9075b 32 = .ok (.areturn, 1) := dk_176 (dq_lk dJ7_copyOf_9075b_w0 (r := 32) (x := 176) rfl)
theorem dJ5_isLatin1_aae02_w0 : (cJ5_isLatin1_aae02.data.toList.drop 0).take 64 = [178, 0, 18, 153, 0, 14, 42, 180, 0, 22, 154, 0, 7, 4, 167, 0, 4, 3, 172] := by decide +kernel
theorem dJ5_isLatin1_aae02_0 : decode cJ5_isLatin1_aae02 0 = .ok (.getstatic 18, 3) := dk_178 (dq_lk dJ5_isLatin1_aae02_w0 (r := 0) (x := 178) rfl) (dq_lk dJ5_isLatin1_aae02_w0 (r := 1) (x := 0) rfl) (dq_lk dJ5_isLatin1_aae02_w0 (r := 2) (x := 18) rfl)
theorem dJ5_isLatin1_aae02_3 : decode cJ5_isLatin1_aae02 3 = .ok (.ifCond .eq 14, 3) := dk_153 (dq_lk dJ5_isLatin1_aae02_w0 (r := 3) (x := 153) rfl) (dq_lk dJ5_isLatin1_aae02_w0 (r := 4) (x := 0) rfl) (dq_lk dJ5_isLatin1_aae02_w0 (r := 5) (x := 14) rfl) (by decide +kernel)
theorem dJ5_isLatin1_aae02_6 : decode cJ5_isLatin1_aae02 6 = .ok (.aload_n 0, 1) := dk_42 (dq_lk dJ5_isLatin1_aae02_w0 (r := 6) (x := 42) rfl)
theorem dJ5_isLatin1_aae02_7 : decode cJ5_isLatin1_aae02 7 = .ok (.getfield 22, 3) := dk_180 (dq_lk dJ5_isLatin1_aae02_w0 (r := 7) (x := 180) rfl) (dq_lk dJ5_isLatin1_aae02_w0 (r := 8) (x := 0) rfl) (dq_lk dJ5_isLatin1_aae02_w0 (r := 9) (x := 22) rfl)
theorem dJ5_isLatin1_aae02_10 : decode cJ5_isLatin1_aae02 10 = .ok (.ifCond .ne 7, 3) := dk_154 (dq_lk dJ5_isLatin1_aae02_w0 (r := 10) (x := 154) rfl) (dq_lk dJ5_isLatin1_aae02_w0 (r := 11) (x := 0) rfl) (dq_lk dJ5_isLatin1_aae02_w0 (r := 12) (x := 7) rfl) (by decide +kernel)
theorem dJ5_isLatin1_aae02_13 : decode cJ5_isLatin1_aae02 13 = .ok (.iconst 1, 1) := dk_4 (dq_lk dJ5_isLatin1_aae02_w0 (r := 13) (x := 4) rfl)
theorem dJ5_isLatin1_aae02_14 : decode cJ5_isLatin1_aae02 14 = .ok (.goto 4, 3) := dk_167 (dq_lk dJ5_isLatin1_aae02_w0 (r := 14) (x := 167) rfl) (dq_lk dJ5_isLatin1_aae02_w0 (r := 15) (x := 0) rfl) (dq_lk dJ5_isLatin1_aae02_w0 (r := 16) (x := 4) rfl) (by decide +kernel)
theorem dJ5_isLatin1_aae02_18 : decode cJ5_isLatin1_aae02 18 = .ok (.ireturn, 1) := dk_172 (dq_lk dJ5_isLatin1_aae02_w0 (r := 18) (x := 172) rfl)
theorem dJ1_canEncode_fc78d_w0 : (cJ1_canEncode_fc78d.data.toList.drop 0).take 64 = [26, 17, 0, 255, 163, 0, 7, 4, 167, 0, 4, 3, 172] := by decide +kernel
theorem dJ1_canEncode_fc78d_0 : decode cJ1_canEncode_fc78d 0 = .ok (.iload_n 0, 1) := dk_26 (dq_lk dJ1_canEncode_fc78d_w0 (r := 0) (x := 26) rfl)
theorem dJ1_canEncode_fc78d_1 : decode cJ1_canEncode_fc78d 1 = .ok (.sipush 255, 3) := dk_17 (dq_lk dJ1_canEncode_fc78d_w0 (r := 1) (x := 17) rfl) (dq_lk dJ1_canEncode_fc78d_w0 (r := 2) (x := 0) rfl) (dq_lk dJ1_canEncode_fc78d_w0 (r := 3) (x := 255) rfl) (by decide +kernel)
theorem dJ1_canEncode_fc78d_4 : decode cJ1_canEncode_fc78d 4 = .ok (.if_icmp .gt 7, 3) := dk_163 (dq_lk dJ1_canEncode_fc78d_w0 (r := 4) (x := 163) rfl) (dq_lk dJ1_canEncode_fc78d_w0 (r := 5) (x := 0) rfl) (dq_lk dJ1_canEncode_fc78d_w0 (r := 6) (x := 7) rfl) (by decide +kernel)
theorem dJ1_canEncode_fc78d_7 : decode cJ1_canEncode_fc78d 7 = .ok (.iconst 1, 1) := dk_4 (dq_lk dJ1_canEncode_fc78d_w0 (r := 7) (x := 4) rfl)
theorem dJ1_canEncode_fc78d_8 : decode cJ1_canEncode_fc78d 8 = .ok (.goto 4, 3) := dk_167 (dq_lk dJ1_canEncode_fc78d_w0 (r := 8) (x := 167) rfl) (dq_lk dJ1_canEncode_fc78d_w0 (r := 9) (x := 0) rfl) (dq_lk dJ1_canEncode_fc78d_w0 (r := 10) (x := 4) rfl) (by decide +kernel)
theorem dJ1_canEncode_fc78d_12 : decode cJ1_canEncode_fc78d 12 = .ok (.ireturn, 1) := dk_172 (dq_lk dJ1_canEncode_fc78d_w0 (r := 12) (x := 172) rfl)
theorem dJ4_reverse_43fcb_w0 : (cJ4_reverse_43fcb.data.toList.drop 0).take 64 = [42, 183, 0, 127, 87, 42, 176] := by decide +kernel
theorem dJ4_reverse_43fcb_0 : decode cJ4_reverse_43fcb 0 = .ok (.aload_n 0, 1) := dk_42 (dq_lk dJ4_reverse_43fcb_w0 (r := 0) (x := 42) rfl)
theorem dJ4_reverse_43fcb_1 : decode cJ4_reverse_43fcb 1 = .ok (.invokespecial 127, 3) := dk_183 (dq_lk dJ4_reverse_43fcb_w0 (r := 1) (x := 183) rfl) (dq_lk dJ4_reverse_43fcb_w0 (r := 2) (x := 0) rfl) (dq_lk dJ4_reverse_43fcb_w0 (r := 3) (x := 127) rfl)
theorem dJ4_reverse_43fcb_4 : decode cJ4_reverse_43fcb 4 = .ok (.pop, 1) := dk_87 (dq_lk dJ4_reverse_43fcb_w0 (r := 4) (x := 87) rfl)
theorem dJ4_reverse_43fcb_5 : decode cJ4_reverse_43fcb 5 = .ok (.aload_n 0, 1) := dk_42 (dq_lk dJ4_reverse_43fcb_w0 (r := 5) (x := 42) rfl)
theorem dJ4_reverse_43fcb_6 : decode cJ4_reverse_43fcb 6 = .ok (.areturn, 1) := dk_176 (dq_lk dJ4_reverse_43fcb_w0 (r := 6) (x := 176) rfl)
theorem dJ5_reverse_278bc_w0 : (cJ5_reverse_278bc.data.toList.drop 0).take 64 = [42, 180, 0, 15, 76, 42, 180, 0, 79, 61, 28, 4, 100, 62, 42, 182, 0, 83, 153, 0, 50, 29, 4, 100, 4, 122, 54, 4, 21, 4, 155, 0, 35, 29, 21, 4, 100, 54, 5, 43, 21, 4, 51, 54, 6, 43, 21, 4, 43, 21, 5, 51, 84, 43, 21, 5, 21, 6, 84, 132, 4, 255, 167, 255] := by decide +kernel
theorem dJ5_reverse_278bc_w1 : (cJ5_reverse_278bc.data.toList.drop 64).take 64 = [222, 167, 0, 8, 43, 28, 184, 1, 102, 42, 176] := by decide +kernel
theorem dJ5_reverse_278bc_0 : decode cJ5_reverse_278bc 0 = .ok (.aload_n 0, 1) := dk_42 (dq_lk dJ5_reverse_278bc_w0 (r := 0) (x := 42) rfl)
theorem dJ5_reverse_278bc_1 : decode cJ5_reverse_278bc 1 = .ok (.getfield 15, 3) := dk_180 (dq_lk dJ5_reverse_278bc_w0 (r := 1) (x := 180) rfl) (dq_lk dJ5_reverse_278bc_w0 (r := 2) (x := 0) rfl) (dq_lk dJ5_reverse_278bc_w0 (r := 3) (x := 15) rfl)
theorem dJ5_reverse_278bc_4 : decode cJ5_reverse_278bc 4 = .ok (.astore_n 1, 1) := dk_76 (dq_lk dJ5_reverse_278bc_w0 (r := 4) (x := 76) rfl)
theorem dJ5_reverse_278bc_5 : decode cJ5_reverse_278bc 5 = .ok (.aload_n 0, 1) := dk_42 (dq_lk dJ5_reverse_278bc_w0 (r := 5) (x := 42) rfl)
theorem dJ5_reverse_278bc_6 : decode cJ5_reverse_278bc 6 = .ok (.getfield 79, 3) := dk_180 (dq_lk dJ5_reverse_278bc_w0 (r := 6) (x := 180) rfl) (dq_lk dJ5_reverse_278bc_w0 (r := 7) (x := 0) rfl) (dq_lk dJ5_reverse_278bc_w0 (r := 8) (x := 79) rfl)
theorem dJ5_reverse_278bc_9 : decode cJ5_reverse_278bc 9 = .ok (.istore_n 2, 1) := dk_61 (dq_lk dJ5_reverse_278bc_w0 (r := 9) (x := 61) rfl)
theorem dJ5_reverse_278bc_10 : decode cJ5_reverse_278bc 10 = .ok (.iload_n 2, 1) := dk_28 (dq_lk dJ5_reverse_278bc_w0 (r := 10) (x := 28) rfl)
theorem dJ5_reverse_278bc_11 : decode cJ5_reverse_278bc 11 = .ok (.iconst 1, 1) := dk_4 (dq_lk dJ5_reverse_278bc_w0 (r := 11) (x := 4) rfl)
theorem dJ5_reverse_278bc_12 : decode cJ5_reverse_278bc 12 = .ok (.isub, 1) := dk_100 (dq_lk dJ5_reverse_278bc_w0 (r := 12) (x := 100) rfl)
theorem dJ5_reverse_278bc_13 : decode cJ5_reverse_278bc 13 = .ok (.istore_n 3, 1) := dk_62 (dq_lk dJ5_reverse_278bc_w0 (r := 13) (x := 62) rfl)
theorem dJ5_reverse_278bc_14 : decode cJ5_reverse_278bc 14 = .ok (.aload_n 0, 1) := dk_42 (dq_lk dJ5_reverse_278bc_w0 (r := 14) (x := 42) rfl)
theorem dJ5_reverse_278bc_15 : decode cJ5_reverse_278bc 15 = .ok (.invokevirtual 83, 3) := dk_182 (dq_lk dJ5_reverse_278bc_w0 (r := 15) (x := 182) rfl) (dq_lk dJ5_reverse_278bc_w0 (r := 16) (x := 0) rfl) (dq_lk dJ5_reverse_278bc_w0 (r := 17) (x := 83) rfl)
theorem dJ5_reverse_278bc_18 : decode cJ5_reverse_278bc 18 = .ok (.ifCond .eq 50, 3) := dk_153 (dq_lk dJ5_reverse_278bc_w0 (r := 18) (x := 153) rfl) (dq_lk dJ5_reverse_278bc_w0 (r := 19) (x := 0) rfl) (dq_lk dJ5_reverse_278bc_w0 (r := 20) (x := 50) rfl) (by decide +kernel)
theorem dJ5_reverse_278bc_21 : decode cJ5_reverse_278bc 21 = .ok (.iload_n 3, 1) := dk_29 (dq_lk dJ5_reverse_278bc_w0 (r := 21) (x := 29) rfl)
theorem dJ5_reverse_278bc_22 : decode cJ5_reverse_278bc 22 = .ok (.iconst 1, 1) := dk_4 (dq_lk dJ5_reverse_278bc_w0 (r := 22) (x := 4) rfl)
theorem dJ5_reverse_278bc_23 : decode cJ5_reverse_278bc 23 = .ok (.isub, 1) := dk_100 (dq_lk dJ5_reverse_278bc_w0 (r := 23) (x := 100) rfl)
theorem dJ5_reverse_278bc_24 : decode cJ5_reverse_278bc 24 = .ok (.iconst 1, 1) := dk_4 (dq_lk dJ5_reverse_278bc_w0 (r := 24) (x := 4) rfl)
theorem dJ5_reverse_278bc_25 : decode cJ5_reverse_278bc 25 = .ok (.ishr, 1) := dk_122 (dq_lk dJ5_reverse_278bc_w0 (r := 25) (x := 122) rfl)
theorem dJ5_reverse_278bc_26 : decode cJ5_reverse_278bc 26 = .ok (.istore 4, 2) := dk_54 (dq_lk dJ5_reverse_278bc_w0 (r := 26) (x := 54) rfl) (dq_lk dJ5_reverse_278bc_w0 (r := 27) (x := 4) rfl)
theorem dJ5_reverse_278bc_28 : decode cJ5_reverse_278bc 28 = .ok (.iload 4, 2) := dk_21 (dq_lk dJ5_reverse_278bc_w0 (r := 28) (x := 21) rfl) (dq_lk dJ5_reverse_278bc_w0 (r := 29) (x := 4) rfl)
theorem dJ5_reverse_278bc_30 : decode cJ5_reverse_278bc 30 = .ok (.ifCond .lt 35, 3) := dk_155 (dq_lk dJ5_reverse_278bc_w0 (r := 30) (x := 155) rfl) (dq_lk dJ5_reverse_278bc_w0 (r := 31) (x := 0) rfl) (dq_lk dJ5_reverse_278bc_w0 (r := 32) (x := 35) rfl) (by decide +kernel)
theorem dJ5_reverse_278bc_33 : decode cJ5_reverse_278bc 33 = .ok (.iload_n 3, 1) := dk_29 (dq_lk dJ5_reverse_278bc_w0 (r := 33) (x := 29) rfl)
theorem dJ5_reverse_278bc_34 : decode cJ5_reverse_278bc 34 = .ok (.iload 4, 2) := dk_21 (dq_lk dJ5_reverse_278bc_w0 (r := 34) (x := 21) rfl) (dq_lk dJ5_reverse_278bc_w0 (r := 35) (x := 4) rfl)
theorem dJ5_reverse_278bc_36 : decode cJ5_reverse_278bc 36 = .ok (.isub, 1) := dk_100 (dq_lk dJ5_reverse_278bc_w0 (r := 36) (x := 100) rfl)
theorem dJ5_reverse_278bc_37 : decode cJ5_reverse_278bc 37 = .ok (.istore 5, 2) := dk_54 (dq_lk dJ5_reverse_278bc_w0 (r := 37) (x := 54) rfl) (dq_lk dJ5_reverse_278bc_w0 (r := 38) (x := 5) rfl)
theorem dJ5_reverse_278bc_39 : decode cJ5_reverse_278bc 39 = .ok (.aload_n 1, 1) := dk_43 (dq_lk dJ5_reverse_278bc_w0 (r := 39) (x := 43) rfl)
theorem dJ5_reverse_278bc_40 : decode cJ5_reverse_278bc 40 = .ok (.iload 4, 2) := dk_21 (dq_lk dJ5_reverse_278bc_w0 (r := 40) (x := 21) rfl) (dq_lk dJ5_reverse_278bc_w0 (r := 41) (x := 4) rfl)
theorem dJ5_reverse_278bc_42 : decode cJ5_reverse_278bc 42 = .ok (.baload, 1) := dk_51 (dq_lk dJ5_reverse_278bc_w0 (r := 42) (x := 51) rfl)
theorem dJ5_reverse_278bc_43 : decode cJ5_reverse_278bc 43 = .ok (.istore 6, 2) := dk_54 (dq_lk dJ5_reverse_278bc_w0 (r := 43) (x := 54) rfl) (dq_lk dJ5_reverse_278bc_w0 (r := 44) (x := 6) rfl)
theorem dJ5_reverse_278bc_45 : decode cJ5_reverse_278bc 45 = .ok (.aload_n 1, 1) := dk_43 (dq_lk dJ5_reverse_278bc_w0 (r := 45) (x := 43) rfl)
theorem dJ5_reverse_278bc_46 : decode cJ5_reverse_278bc 46 = .ok (.iload 4, 2) := dk_21 (dq_lk dJ5_reverse_278bc_w0 (r := 46) (x := 21) rfl) (dq_lk dJ5_reverse_278bc_w0 (r := 47) (x := 4) rfl)
theorem dJ5_reverse_278bc_48 : decode cJ5_reverse_278bc 48 = .ok (.aload_n 1, 1) := dk_43 (dq_lk dJ5_reverse_278bc_w0 (r := 48) (x := 43) rfl)
theorem dJ5_reverse_278bc_49 : decode cJ5_reverse_278bc 49 = .ok (.iload 5, 2) := dk_21 (dq_lk dJ5_reverse_278bc_w0 (r := 49) (x := 21) rfl) (dq_lk dJ5_reverse_278bc_w0 (r := 50) (x := 5) rfl)
theorem dJ5_reverse_278bc_51 : decode cJ5_reverse_278bc 51 = .ok (.baload, 1) := dk_51 (dq_lk dJ5_reverse_278bc_w0 (r := 51) (x := 51) rfl)
theorem dJ5_reverse_278bc_52 : decode cJ5_reverse_278bc 52 = .ok (.bastore, 1) := dk_84 (dq_lk dJ5_reverse_278bc_w0 (r := 52) (x := 84) rfl)
theorem dJ5_reverse_278bc_53 : decode cJ5_reverse_278bc 53 = .ok (.aload_n 1, 1) := dk_43 (dq_lk dJ5_reverse_278bc_w0 (r := 53) (x := 43) rfl)
theorem dJ5_reverse_278bc_54 : decode cJ5_reverse_278bc 54 = .ok (.iload 5, 2) := dk_21 (dq_lk dJ5_reverse_278bc_w0 (r := 54) (x := 21) rfl) (dq_lk dJ5_reverse_278bc_w0 (r := 55) (x := 5) rfl)
theorem dJ5_reverse_278bc_56 : decode cJ5_reverse_278bc 56 = .ok (.iload 6, 2) := dk_21 (dq_lk dJ5_reverse_278bc_w0 (r := 56) (x := 21) rfl) (dq_lk dJ5_reverse_278bc_w0 (r := 57) (x := 6) rfl)
theorem dJ5_reverse_278bc_58 : decode cJ5_reverse_278bc 58 = .ok (.bastore, 1) := dk_84 (dq_lk dJ5_reverse_278bc_w0 (r := 58) (x := 84) rfl)
theorem dJ5_reverse_278bc_59 : decode cJ5_reverse_278bc 59 = .ok (.iinc 4 (-1), 3) := dk_132 (dq_lk dJ5_reverse_278bc_w0 (r := 59) (x := 132) rfl) (dq_lk dJ5_reverse_278bc_w0 (r := 60) (x := 4) rfl) (dq_lk dJ5_reverse_278bc_w0 (r := 61) (x := 255) rfl) (by decide +kernel)
theorem dJ5_reverse_278bc_62 : decode cJ5_reverse_278bc 62 = .ok (.goto (-34), 3) := dk_167 (dq_lk dJ5_reverse_278bc_w0 (r := 62) (x := 167) rfl) (dq_lk dJ5_reverse_278bc_w0 (r := 63) (x := 255) rfl) (dq_lk dJ5_reverse_278bc_w1 (r := 0) (x := 222) rfl) (by decide +kernel)
theorem dJ5_reverse_278bc_65 : decode cJ5_reverse_278bc 65 = .ok (.goto 8, 3) := dk_167 (dq_lk dJ5_reverse_278bc_w1 (r := 1) (x := 167) rfl) (dq_lk dJ5_reverse_278bc_w1 (r := 2) (x := 0) rfl) (dq_lk dJ5_reverse_278bc_w1 (r := 3) (x := 8) rfl) (by decide +kernel)
theorem dJ5_reverse_278bc_73 : decode cJ5_reverse_278bc 73 = .ok (.aload_n 0, 1) := dk_42 (dq_lk dJ5_reverse_278bc_w1 (r := 9) (x := 42) rfl)
theorem dJ5_reverse_278bc_74 : decode cJ5_reverse_278bc 74 = .ok (.areturn, 1) := dk_176 (dq_lk dJ5_reverse_278bc_w1 (r := 10) (x := 176) rfl)
theorem dJ4_toString_0e30d_w0 : (cJ4_toString_0e30d.data.toList.drop 0).take 64 = [187, 0, 18, 89, 42, 183, 0, 137, 176] := by decide +kernel
theorem dJ4_toString_0e30d_0 : decode cJ4_toString_0e30d 0 = .ok (.new 18, 3) := dk_187 (dq_lk dJ4_toString_0e30d_w0 (r := 0) (x := 187) rfl) (dq_lk dJ4_toString_0e30d_w0 (r := 1) (x := 0) rfl) (dq_lk dJ4_toString_0e30d_w0 (r := 2) (x := 18) rfl)
theorem dJ4_toString_0e30d_3 : decode cJ4_toString_0e30d 3 = .ok (.dup, 1) := dk_89 (dq_lk dJ4_toString_0e30d_w0 (r := 3) (x := 89) rfl)
theorem dJ4_toString_0e30d_4 : decode cJ4_toString_0e30d 4 = .ok (.aload_n 0, 1) := dk_42 (dq_lk dJ4_toString_0e30d_w0 (r := 4) (x := 42) rfl)
theorem dJ4_toString_0e30d_5 : decode cJ4_toString_0e30d 5 = .ok (.invokespecial 137, 3) := dk_183 (dq_lk dJ4_toString_0e30d_w0 (r := 5) (x := 183) rfl) (dq_lk dJ4_toString_0e30d_w0 (r := 6) (x := 0) rfl) (dq_lk dJ4_toString_0e30d_w0 (r := 7) (x := 137) rfl)
theorem dJ4_toString_0e30d_8 : decode cJ4_toString_0e30d 8 = .ok (.areturn, 1) := dk_176 (dq_lk dJ4_toString_0e30d_w0 (r := 8) (x := 176) rfl)
theorem dJ0_init_81219_w0 : (cJ0_init_81219.data.toList.drop 0).take 64 = [42, 43, 1, 183, 1, 233, 177] := by decide +kernel
theorem dJ0_init_81219_0 : decode cJ0_init_81219 0 = .ok (.aload_n 0, 1) := dk_42 (dq_lk dJ0_init_81219_w0 (r := 0) (x := 42) rfl)
theorem dJ0_init_81219_1 : decode cJ0_init_81219 1 = .ok (.aload_n 1, 1) := dk_43 (dq_lk dJ0_init_81219_w0 (r := 1) (x := 43) rfl)
theorem dJ0_init_81219_2 : decode cJ0_init_81219 2 = .ok (.aconst_null, 1) := dk_1 (dq_lk dJ0_init_81219_w0 (r := 2) (x := 1) rfl)
theorem dJ0_init_81219_3 : decode cJ0_init_81219 3 = .ok (.invokespecial 489, 3) := dk_183 (dq_lk dJ0_init_81219_w0 (r := 3) (x := 183) rfl) (dq_lk dJ0_init_81219_w0 (r := 4) (x := 1) rfl) (dq_lk dJ0_init_81219_w0 (r := 5) (x := 233) rfl)
theorem dJ0_init_81219_6 : decode cJ0_init_81219 6 = .ok (.return_, 1) := dk_177 (dq_lk dJ0_init_81219_w0 (r := 6) (x := 177) rfl)
theorem dJ0_init_db425_w0 : (cJ0_init_db425.data.toList.drop 0).take 64 = [42, 183, 0, 1, 43, 182, 2, 40, 78, 43, 182, 2, 37, 54, 4, 43, 182, 4, 23, 153, 0, 22, 42, 3, 181, 0, 15, 42, 45, 3, 21, 4, 184, 0, 54, 181, 0, 9, 167, 0, 59, 178, 0, 38, 153, 0, 35, 43, 180, 4, 24, 153, 0, 28, 42, 45, 3, 21, 4, 184, 4, 27, 181, 0] := by decide +kernel
theorem dJ0_init_db425_w1 : (cJ0_init_db425.data.toList.drop 64).take 64 = [9, 42, 42, 180, 0, 9, 21, 4, 184, 0, 47, 181, 0, 15, 177, 42, 4, 181, 0, 15, 42, 45, 3, 21, 4, 4, 120, 184, 0, 54, 181, 0, 9, 177] := by decide +kernel
theorem dJ0_init_db425_0 : decode cJ0_init_db425 0 = .ok (.aload_n 0, 1) := dk_42 (dq_lk dJ0_init_db425_w0 (r := 0) (x := 42) rfl)
theorem dJ0_init_db425_1 : decode cJ0_init_db425 1 = .ok (.invokespecial 1, 3) := dk_183 (dq_lk dJ0_init_db425_w0 (r := 1) (x := 183) rfl) (dq_lk dJ0_init_db425_w0 (r := 2) (x := 0) rfl) (dq_lk dJ0_init_db425_w0 (r := 3) (x := 1) rfl)
theorem dJ0_init_db425_4 : decode cJ0_init_db425 4 = .ok (.aload_n 1, 1) := dk_43 (dq_lk dJ0_init_db425_w0 (r := 4) (x := 43) rfl)
theorem dJ0_init_db425_5 : decode cJ0_init_db425 5 = .ok (.invokevirtual 552, 3) := dk_182 (dq_lk dJ0_init_db425_w0 (r := 5) (x := 182) rfl) (dq_lk dJ0_init_db425_w0 (r := 6) (x := 2) rfl) (dq_lk dJ0_init_db425_w0 (r := 7) (x := 40) rfl)
theorem dJ0_init_db425_8 : decode cJ0_init_db425 8 = .ok (.astore_n 3, 1) := dk_78 (dq_lk dJ0_init_db425_w0 (r := 8) (x := 78) rfl)
theorem dJ0_init_db425_9 : decode cJ0_init_db425 9 = .ok (.aload_n 1, 1) := dk_43 (dq_lk dJ0_init_db425_w0 (r := 9) (x := 43) rfl)
theorem dJ0_init_db425_10 : decode cJ0_init_db425 10 = .ok (.invokevirtual 549, 3) := dk_182 (dq_lk dJ0_init_db425_w0 (r := 10) (x := 182) rfl) (dq_lk dJ0_init_db425_w0 (r := 11) (x := 2) rfl) (dq_lk dJ0_init_db425_w0 (r := 12) (x := 37) rfl)
theorem dJ0_init_db425_13 : decode cJ0_init_db425 13 = .ok (.istore 4, 2) := dk_54 (dq_lk dJ0_init_db425_w0 (r := 13) (x := 54) rfl) (dq_lk dJ0_init_db425_w0 (r := 14) (x := 4) rfl)
theorem dJ0_init_db425_15 : decode cJ0_init_db425 15 = .ok (.aload_n 1, 1) := dk_43 (dq_lk dJ0_init_db425_w0 (r := 15) (x := 43) rfl)
theorem dJ0_init_db425_16 : decode cJ0_init_db425 16 = .ok (.invokevirtual 1047, 3) := dk_182 (dq_lk dJ0_init_db425_w0 (r := 16) (x := 182) rfl) (dq_lk dJ0_init_db425_w0 (r := 17) (x := 4) rfl) (dq_lk dJ0_init_db425_w0 (r := 18) (x := 23) rfl)
theorem dJ0_init_db425_19 : decode cJ0_init_db425 19 = .ok (.ifCond .eq 22, 3) := dk_153 (dq_lk dJ0_init_db425_w0 (r := 19) (x := 153) rfl) (dq_lk dJ0_init_db425_w0 (r := 20) (x := 0) rfl) (dq_lk dJ0_init_db425_w0 (r := 21) (x := 22) rfl) (by decide +kernel)
theorem dJ0_init_db425_22 : decode cJ0_init_db425 22 = .ok (.aload_n 0, 1) := dk_42 (dq_lk dJ0_init_db425_w0 (r := 22) (x := 42) rfl)
theorem dJ0_init_db425_23 : decode cJ0_init_db425 23 = .ok (.iconst 0, 1) := dk_3 (dq_lk dJ0_init_db425_w0 (r := 23) (x := 3) rfl)
theorem dJ0_init_db425_24 : decode cJ0_init_db425 24 = .ok (.putfield 15, 3) := dk_181 (dq_lk dJ0_init_db425_w0 (r := 24) (x := 181) rfl) (dq_lk dJ0_init_db425_w0 (r := 25) (x := 0) rfl) (dq_lk dJ0_init_db425_w0 (r := 26) (x := 15) rfl)
theorem dJ0_init_db425_27 : decode cJ0_init_db425 27 = .ok (.aload_n 0, 1) := dk_42 (dq_lk dJ0_init_db425_w0 (r := 27) (x := 42) rfl)
theorem dJ0_init_db425_28 : decode cJ0_init_db425 28 = .ok (.aload_n 3, 1) := dk_45 (dq_lk dJ0_init_db425_w0 (r := 28) (x := 45) rfl)
theorem dJ0_init_db425_29 : decode cJ0_init_db425 29 = .ok (.iconst 0, 1) := dk_3 (dq_lk dJ0_init_db425_w0 (r := 29) (x := 3) rfl)
theorem dJ0_init_db425_30 : decode cJ0_init_db425 30 = .ok (.iload 4, 2) := dk_21 (dq_lk dJ0_init_db425_w0 (r := 30) (x := 21) rfl) (dq_lk dJ0_init_db425_w0 (r := 31) (x := 4) rfl)
theorem dJ0_init_db425_32 : decode cJ0_init_db425 32 = .ok (.invokestatic 54, 3) := dk_184 (dq_lk dJ0_init_db425_w0 (r := 32) (x := 184) rfl) (dq_lk dJ0_init_db425_w0 (r := 33) (x := 0) rfl) (dq_lk dJ0_init_db425_w0 (r := 34) (x := 54) rfl)
theorem dJ0_init_db425_35 : decode cJ0_init_db425 35 = .ok (.putfield 9, 3) := dk_181 (dq_lk dJ0_init_db425_w0 (r := 35) (x := 181) rfl) (dq_lk dJ0_init_db425_w0 (r := 36) (x := 0) rfl) (dq_lk dJ0_init_db425_w0 (r := 37) (x := 9) rfl)
theorem dJ0_init_db425_38 : decode cJ0_init_db425 38 = .ok (.goto 59, 3) := dk_167 (dq_lk dJ0_init_db425_w0 (r := 38) (x := 167) rfl) (dq_lk dJ0_init_db425_w0 (r := 39) (x := 0) rfl) (dq_lk dJ0_init_db425_w0 (r := 40) (x := 59) rfl) (by decide +kernel)
theorem dJ0_init_db425_97 : decode cJ0_init_db425 97 = .ok (.return_, 1) := dk_177 (dq_lk dJ0_init_db425_w1 (r := 33) (x := 177) rfl)
theorem dJ5_getValue_6d5f1_w0 : (cJ5_getValue_6d5f1.data.toList.drop 0).take 64 = [42, 180, 0, 15, 176] := by decide +kernel
theorem dJ5_getValue_6d5f1_0 : decode cJ5_getValue_6d5f1 0 = .ok (.aload_n 0, 1) := dk_42 (dq_lk dJ5_getValue_6d5f1_w0 (r := 0) (x := 42) rfl)
theorem dJ5_getValue_6d5f1_1 : decode cJ5_getValue_6d5f1 1 = .ok (.getfield 15, 3) := dk_180 (dq_lk dJ5_getValue_6d5f1_w0 (r := 1) (x := 180) rfl) (dq_lk dJ5_getValue_6d5f1_w0 (r := 2) (x := 0) rfl) (dq_lk dJ5_getValue_6d5f1_w0 (r := 3) (x := 15) rfl)
theorem dJ5_getValue_6d5f1_4 : decode cJ5_getValue_6d5f1 4 = .ok (.areturn, 1) := dk_176 (dq_lk dJ5_getValue_6d5f1_w0 (r := 4) (x := 176) rfl)
theorem dJ5_length_8abf5_w0 : (cJ5_length_8abf5.data.toList.drop 0).take 64 = [42, 180, 0, 79, 172] := by decide +kernel
theorem dJ5_length_8abf5_0 : decode cJ5_length_8abf5 0 = .ok (.aload_n 0, 1) := dk_42 (dq_lk dJ5_length_8abf5_w0 (r := 0) (x := 42) rfl)
theorem dJ5_length_8abf5_1 : decode cJ5_length_8abf5 1 = .ok (.getfield 79, 3) := dk_180 (dq_lk dJ5_length_8abf5_w0 (r := 1) (x := 180) rfl) (dq_lk dJ5_length_8abf5_w0 (r := 2) (x := 0) rfl) (dq_lk dJ5_length_8abf5_w0 (r := 3) (x := 79) rfl)
theorem dJ5_length_8abf5_4 : decode cJ5_length_8abf5 4 = .ok (.ireturn, 1) := dk_172 (dq_lk dJ5_length_8abf5_w0 (r := 4) (x := 172) rfl)
theorem dJ4_length_8abf5_w0 : (cJ4_length_8abf5.data.toList.drop 0).take 64 = [42, 183, 1, 87, 172] := by decide +kernel
theorem dJ4_length_8abf5_0 : decode cJ4_length_8abf5 0 = .ok (.aload_n 0, 1) := dk_42 (dq_lk dJ4_length_8abf5_w0 (r := 0) (x := 42) rfl)
theorem dJ4_length_8abf5_1 : decode cJ4_length_8abf5 1 = .ok (.invokespecial 343, 3) := dk_183 (dq_lk dJ4_length_8abf5_w0 (r := 1) (x := 183) rfl) (dq_lk dJ4_length_8abf5_w0 (r := 2) (x := 1) rfl) (dq_lk dJ4_length_8abf5_w0 (r := 3) (x := 87) rfl)
theorem dJ4_length_8abf5_4 : decode cJ4_length_8abf5 4 = .ok (.ireturn, 1) := dk_172 (dq_lk dJ4_length_8abf5_w0 (r := 4) (x := 172) rfl)
theorem dJ7_copyOfRange_39247_w0 : (cJ7_copyOfRange_39247.data.toList.drop 0).take 64 = [27, 154, 0, 9, 28, 42, 190, 159, 0, 10, 42, 27, 28, 184, 1, 83, 176, 42, 182, 1, 54, 192, 1, 55, 176] := by decide +kernel
theorem dJ7_copyOfRange_39247_0 : decode cJ7_copyOfRange_39247 0 = .ok (.iload_n 1, 1) := dk_27 (dq_lk dJ7_copyOfRange_39247_w0 (r := 0) (x := 27) rfl)
theorem dJ7_copyOfRange_39247_1 : decode cJ7_copyOfRange_39247 1 = .ok (.ifCond .ne 9, 3) := dk_154 (dq_lk dJ7_copyOfRange_39247_w0 (r := 1) (x := 154) rfl) (dq_lk dJ7_copyOfRange_39247_w0 (r := 2) (x := 0) rfl) (dq_lk dJ7_copyOfRange_39247_w0 (r := 3) (x := 9) rfl) (by decide +kernel)
theorem dJ7_copyOfRange_39247_4 : decode cJ7_copyOfRange_39247 4 = .ok (.iload_n 2, 1) := dk_28 (dq_lk dJ7_copyOfRange_39247_w0 (r := 4) (x := 28) rfl)
theorem dJ7_copyOfRange_39247_5 : decode cJ7_copyOfRange_39247 5 = .ok (.aload_n 0, 1) := dk_42 (dq_lk dJ7_copyOfRange_39247_w0 (r := 5) (x := 42) rfl)
theorem dJ7_copyOfRange_39247_6 : decode cJ7_copyOfRange_39247 6 = .ok (.arraylength, 1) := dk_190 (dq_lk dJ7_copyOfRange_39247_w0 (r := 6) (x := 190) rfl)
theorem dJ7_copyOfRange_39247_7 : decode cJ7_copyOfRange_39247 7 = .ok (.if_icmp .eq 10, 3) := dk_159 (dq_lk dJ7_copyOfRange_39247_w0 (r := 7) (x := 159) rfl) (dq_lk dJ7_copyOfRange_39247_w0 (r := 8) (x := 0) rfl) (dq_lk dJ7_copyOfRange_39247_w0 (r := 9) (x := 10) rfl) (by decide +kernel)
theorem dJ7_copyOfRange_39247_10 : decode cJ7_copyOfRange_39247 10 = .ok (.aload_n 0, 1) := dk_42 (dq_lk dJ7_copyOfRange_39247_w0 (r := 10) (x := 42) rfl)
theorem dJ7_copyOfRange_39247_11 : decode cJ7_copyOfRange_39247 11 = .ok (.iload_n 1, 1) := dk_27 (dq_lk dJ7_copyOfRange_39247_w0 (r := 11) (x := 27) rfl)
theorem dJ7_copyOfRange_39247_12 : decode cJ7_copyOfRange_39247 12 = .ok (.iload_n 2, 1) := dk_28 (dq_lk dJ7_copyOfRange_39247_w0 (r := 12) (x := 28) rfl)
theorem dJ7_copyOfRange_39247_13 : decode cJ7_copyOfRange_39247 13 = .ok (.invokestatic 339, 3) := dk_184 (dq_lk dJ7_copyOfRange_39247_w0 (r := 13) (x := 184) rfl) (dq_lk dJ7_copyOfRange_39247_w0 (r := 14) (x := 1) rfl) (dq_lk dJ7_copyOfRange_39247_w0 (r := 15) (x := 83) rfl)
theorem dJ7_copyOfRange_39247_16 : decode cJ7_copyOfRange_39247 16 = .ok (.areturn, 1) := dk_176 (dq_lk dJ7_copyOfRange_39247_w0 (r := 16) (x := 176) rfl)
theorem dJ7_copyOfRange_39247_17 : decode cJ7_copyOfRange_39247 17 = .ok (.aload_n 0, 1) := dk_42 (dq_lk dJ7_copyOfRange_39247_w0 (r := 17) (x := 42) rfl)
theorem dJ7_copyOfRange_39247_18 : decode cJ7_copyOfRange_39247 18 = .ok (.invokevirtual 310, 3) := dk_182 (dq_lk dJ7_copyOfRange_39247_w0 (r := 18) (x := 182) rfl) (dq_lk dJ7_copyOfRange_39247_w0 (r := 19) (x := 1) rfl) (dq_lk dJ7_copyOfRange_39247_w0 (r := 20) (x := 54) rfl)
theorem dJ7_copyOfRange_39247_21 : decode cJ7_copyOfRange_39247 21 = .ok (.checkcast 311, 3) := dk_192 (dq_lk dJ7_copyOfRange_39247_w0 (r := 21) (x := 192) rfl) (dq_lk dJ7_copyOfRange_39247_w0 (r := 22) (x := 1) rfl) (dq_lk dJ7_copyOfRange_39247_w0 (r := 23) (x := 55) rfl)
theorem dJ7_copyOfRange_39247_24 : decode cJ7_copyOfRange_39247 24 = .ok (.areturn, 1) := dk_176 (dq_lk dJ7_copyOfRange_39247_w0 (r := 24) (x := 176) rfl)
theorem dJ7_copyOfRangeByte_39247_w0 : (cJ7_copyOfRangeByte_39247.data.toList.drop 0).take 64 = [27, 28, 184, 1, 87, 28, 27, 100, 62, 29, 188, 8, 58, 4, 42, 27, 25, 4, 3, 42, 190, 27, 100, 29, 184, 1, 48, 184, 0, 150, 25, 4, 176] := by decide +kernel
theorem dJ7_copyOfRangeByte_39247_0 : decode cJ7_copyOfRangeByte_39247 0 = .ok (.iload_n 1, 1) := dk_27 (dq_lk dJ7_copyOfRangeByte_39247_w0 (r := 0) (x := 27) rfl)
theorem dJ7_copyOfRangeByte_39247_1 : decode cJ7_copyOfRangeByte_39247 1 = .ok (.iload_n 2, 1) := dk_28 (dq_lk dJ7_copyOfRangeByte_39247_w0 (r := 1) (x := 28) rfl)
theorem dJ7_copyOfRangeByte_39247_2 : decode cJ7_copyOfRangeByte_39247 2 = .ok (.invokestatic 343, 3) := dk_184 (dq_lk dJ7_copyOfRangeByte_39247_w0 (r := 2) (x := 184) rfl) (dq_lk dJ7_copyOfRangeByte_39247_w0 (r := 3) (x := 1) rfl) (dq_lk dJ7_copyOfRangeByte_39247_w0 (r := 4) (x := 87) rfl)
theorem dJ7_copyOfRangeByte_39247_5 : decode cJ7_copyOfRangeByte_39247 5 = .ok (.iload_n 2, 1) := dk_28 (dq_lk dJ7_copyOfRangeByte_39247_w0 (r := 5) (x := 28) rfl)
theorem dJ7_copyOfRangeByte_39247_6 : decode cJ7_copyOfRangeByte_39247 6 = .ok (.iload_n 1, 1) := dk_27 (dq_lk dJ7_copyOfRangeByte_39247_w0 (r := 6) (x := 27) rfl)
theorem dJ7_copyOfRangeByte_39247_7 : decode cJ7_copyOfRangeByte_39247 7 = .ok (.isub, 1) := dk_100 (dq_lk dJ7_copyOfRangeByte_39247_w0 (r := 7) (x := 100) rfl)
theorem dJ7_copyOfRangeByte_39247_8 : decode cJ7_copyOfRangeByte_39247 8 = .ok (.istore_n 3, 1) := dk_62 (dq_lk dJ7_copyOfRangeByte_39247_w0 (r := 8) (x := 62) rfl)
theorem dJ7_copyOfRangeByte_39247_9 : decode cJ7_copyOfRangeByte_39247 9 = .ok (.iload_n 3, 1) := dk_29 (dq_lk dJ7_copyOfRangeByte_39247_w0 (r := 9) (x := 29) rfl)
theorem dJ7_copyOfRangeByte_39247_10 : decode cJ7_copyOfRangeByte_39247 10 = .ok (.newarray .byte, 2) := by decide +kernel
theorem dJ7_copyOfRangeByte_39247_12 : decode cJ7_copyOfRangeByte_39247 12 = .ok (.astore 4, 2) := dk_58 (dq_lk dJ7_copyOfRangeByte_39247_w0 (r := 12) (x := 58) rfl) (dq_lk dJ7_copyOfRangeByte_39247_w0 (r := 13) (x := 4) rfl)
theorem dJ7_copyOfRangeByte_39247_14 : decode cJ7_copyOfRangeByte_39247 14 = .ok (.aload_n 0, 1) := dk_42 (dq_lk dJ7_copyOfRangeByte_39247_w0 (r := 14) (x := 42) rfl)
theorem dJ7_copyOfRangeByte_39247_15 : decode cJ7_copyOfRangeByte_39247 15 = .ok (.iload_n 1, 1) := dk_27 (dq_lk dJ7_copyOfRangeByte_39247_w0 (r := 15) (x := 27) rfl)
theorem dJ7_copyOfRangeByte_39247_16 : decode cJ7_copyOfRangeByte_39247 16 = .ok (.aload 4, 2) := dk_25 (dq_lk dJ7_copyOfRangeByte_39247_w0 (r := 16) (x := 25) rfl) (dq_lk dJ7_copyOfRangeByte_39247_w0 (r := 17) (x := 4) rfl)
theorem dJ7_copyOfRangeByte_39247_18 : decode cJ7_copyOfRangeByte_39247 18 = .ok (.iconst 0, 1) := dk_3 (dq_lk dJ7_copyOfRangeByte_39247_w0 (r := 18) (x := 3) rfl)
theorem dJ7_copyOfRangeByte_39247_19 : decode cJ7_copyOfRangeByte_39247 19 = .ok (.aload_n 0, 1) := dk_42 (dq_lk dJ7_copyOfRangeByte_39247_w0 (r := 19) (x := 42) rfl)
theorem dJ7_copyOfRangeByte_39247_20 : decode cJ7_copyOfRangeByte_39247 20 = .ok (.arraylength, 1) := dk_190 (dq_lk dJ7_copyOfRangeByte_39247_w0 (r := 20) (x := 190) rfl)
theorem dJ7_copyOfRangeByte_39247_21 : decode cJ7_copyOfRangeByte_39247 21 = .ok (.iload_n 1, 1) := dk_27 (dq_lk dJ7_copyOfRangeByte_39247_w0 (r := 21) (x := 27) rfl)
theorem dJ7_copyOfRangeByte_39247_22 : decode cJ7_copyOfRangeByte_39247 22 = .ok (.isub, 1) := dk_100 (dq_lk dJ7_copyOfRangeByte_39247_w0 (r := 22) (x := 100) rfl)
theorem dJ7_copyOfRangeByte_39247_23 : decode cJ7_copyOfRangeByte_39247 23 = .ok (.iload_n 3, 1) := dk_29 (dq_lk dJ7_copyOfRangeByte_39247_w0 (r := 23) (x := 29) rfl)
theorem dJ7_copyOfRangeByte_39247_24 : decode cJ7_copyOfRangeByte_39247 24 = .ok (.invokestatic 304, 3) := dk_184 (dq_lk dJ7_copyOfRangeByte_39247_w0 (r := 24) (x := 184) rfl) (dq_lk dJ7_copyOfRangeByte_39247_w0 (r := 25) (x := 1) rfl) (dq_lk dJ7_copyOfRangeByte_39247_w0 (r := 26) (x := 48) rfl)
theorem dJ7_copyOfRangeByte_39247_27 : decode cJ7_copyOfRangeByte_39247 27 = .ok (.invokestatic 150, 3) := dk_184 (dq_lk dJ7_copyOfRangeByte_39247_w0 (r := 27) (x := 184) rfl) (dq_lk dJ7_copyOfRangeByte_39247_w0 (r := 28) (x := 0) rfl) (dq_lk dJ7_copyOfRangeByte_39247_w0 (r := 29) (x := 150) rfl)
theorem dJ7_copyOfRangeByte_39247_30 : decode cJ7_copyOfRangeByte_39247 30 = .ok (.aload 4, 2) := dk_25 (dq_lk dJ7_copyOfRangeByte_39247_w0 (r := 30) (x := 25) rfl) (dq_lk dJ7_copyOfRangeByte_39247_w0 (r := 31) (x := 4) rfl)
theorem dJ7_copyOfRangeByte_39247_32 : decode cJ7_copyOfRangeByte_39247 32 = .ok (.areturn, 1) := dk_176 (dq_lk dJ7_copyOfRangeByte_39247_w0 (r := 32) (x := 176) rfl)
theorem dJ7_checkLength_df160_w0 : (cJ7_checkLength_df160.data.toList.drop 0).take 64 = [27, 26, 162, 0, 35, 187, 0, 43, 89, 187, 0, 45, 89, 183, 0, 47, 26, 182, 0, 54, 19, 1, 81, 182, 0, 50, 27, 182, 0, 54, 182, 0, 61, 183, 0, 65, 191, 177] := by decide +kernel
theorem dJ7_checkLength_df160_0 : decode cJ7_checkLength_df160 0 = .ok (.iload_n 1, 1) := dk_27 (dq_lk dJ7_checkLength_df160_w0 (r := 0) (x := 27) rfl)
theorem dJ7_checkLength_df160_1 : decode cJ7_checkLength_df160 1 = .ok (.iload_n 0, 1) := dk_26 (dq_lk dJ7_checkLength_df160_w0 (r := 1) (x := 26) rfl)
theorem dJ7_checkLength_df160_2 : decode cJ7_checkLength_df160 2 = .ok (.if_icmp .ge 35, 3) := dk_162 (dq_lk dJ7_checkLength_df160_w0 (r := 2) (x := 162) rfl) (dq_lk dJ7_checkLength_df160_w0 (r := 3) (x := 0) rfl) (dq_lk dJ7_checkLength_df160_w0 (r := 4) (x := 35) rfl) (by decide +kernel)
theorem dJ7_checkLength_df160_37 : decode cJ7_checkLength_df160 37 = .ok (.return_, 1) := dk_177 (dq_lk dJ7_checkLength_df160_w0 (r := 37) (x := 177) rfl)
theorem dJ4_append_15ec4_w0 : (cJ4_append_15ec4.data.toList.drop 0).take 64 = [42, 43, 183, 0, 29, 87, 42, 176] := by decide +kernel
theorem dJ4_append_15ec4_0 : decode cJ4_append_15ec4 0 = .ok (.aload_n 0, 1) := dk_42 (dq_lk dJ4_append_15ec4_w0 (r := 0) (x := 42) rfl)
theorem dJ4_append_15ec4_1 : decode cJ4_append_15ec4 1 = .ok (.aload_n 1, 1) := dk_43 (dq_lk dJ4_append_15ec4_w0 (r := 1) (x := 43) rfl)
theorem dJ4_append_15ec4_2 : decode cJ4_append_15ec4 2 = .ok (.invokespecial 29, 3) := dk_183 (dq_lk dJ4_append_15ec4_w0 (r := 2) (x := 183) rfl) (dq_lk dJ4_append_15ec4_w0 (r := 3) (x := 0) rfl) (dq_lk dJ4_append_15ec4_w0 (r := 4) (x := 29) rfl)
theorem dJ4_append_15ec4_5 : decode cJ4_append_15ec4 5 = .ok (.pop, 1) := dk_87 (dq_lk dJ4_append_15ec4_w0 (r := 5) (x := 87) rfl)
theorem dJ4_append_15ec4_6 : decode cJ4_append_15ec4 6 = .ok (.aload_n 0, 1) := dk_42 (dq_lk dJ4_append_15ec4_w0 (r := 6) (x := 42) rfl)
theorem dJ4_append_15ec4_7 : decode cJ4_append_15ec4 7 = .ok (.areturn, 1) := dk_176 (dq_lk dJ4_append_15ec4_w0 (r := 7) (x := 176) rfl)
theorem dJ5_append_cf1ce_w0 : (cJ5_append_cf1ce.data.toList.drop 0).take 64 = [43, 199, 0, 8, 42, 182, 0, 204, 176, 43, 182, 0, 32, 61, 42, 42, 180, 0, 79, 28, 96, 182, 0, 100, 42, 42, 180, 0, 79, 43, 182, 0, 208, 42, 89, 180, 0, 79, 28, 96, 181, 0, 79, 42, 176] := by decide +kernel
theorem dJ5_append_cf1ce_0 : decode cJ5_append_cf1ce 0 = .ok (.aload_n 1, 1) := dk_43 (dq_lk dJ5_append_cf1ce_w0 (r := 0) (x := 43) rfl)
theorem dJ5_append_cf1ce_1 : decode cJ5_append_cf1ce 1 = .ok (.ifnonnull 8, 3) := dk_199 (dq_lk dJ5_append_cf1ce_w0 (r := 1) (x := 199) rfl) (dq_lk dJ5_append_cf1ce_w0 (r := 2) (x := 0) rfl) (dq_lk dJ5_append_cf1ce_w0 (r := 3) (x := 8) rfl) (by decide +kernel)
theorem dJ5_append_cf1ce_9 : decode cJ5_append_cf1ce 9 = .ok (.aload_n 1, 1) := dk_43 (dq_lk dJ5_append_cf1ce_w0 (r := 9) (x := 43) rfl)
theorem dJ5_append_cf1ce_10 : decode cJ5_append_cf1ce 10 = .ok (.invokevirtual 32, 3) := dk_182 (dq_lk dJ5_append_cf1ce_w0 (r := 10) (x := 182) rfl) (dq_lk dJ5_append_cf1ce_w0 (r := 11) (x := 0) rfl) (dq_lk dJ5_append_cf1ce_w0 (r := 12) (x := 32) rfl)
theorem dJ5_append_cf1ce_13 : decode cJ5_append_cf1ce 13 = .ok (.istore_n 2, 1) := dk_61 (dq_lk dJ5_append_cf1ce_w0 (r := 13) (x := 61) rfl)
theorem dJ5_append_cf1ce_14 : decode cJ5_append_cf1ce 14 = .ok (.aload_n 0, 1) := dk_42 (dq_lk dJ5_append_cf1ce_w0 (r := 14) (x := 42) rfl)
theorem dJ5_append_cf1ce_15 : decode cJ5_append_cf1ce 15 = .ok (.aload_n 0, 1) := dk_42 (dq_lk dJ5_append_cf1ce_w0 (r := 15) (x := 42) rfl)
theorem dJ5_append_cf1ce_16 : decode cJ5_append_cf1ce 16 = .ok (.getfield 79, 3) := dk_180 (dq_lk dJ5_append_cf1ce_w0 (r := 16) (x := 180) rfl) (dq_lk dJ5_append_cf1ce_w0 (r := 17) (x := 0) rfl) (dq_lk dJ5_append_cf1ce_w0 (r := 18) (x := 79) rfl)
theorem dJ5_append_cf1ce_19 : decode cJ5_append_cf1ce 19 = .ok (.iload_n 2, 1) := dk_28 (dq_lk dJ5_append_cf1ce_w0 (r := 19) (x := 28) rfl)
theorem dJ5_append_cf1ce_20 : decode cJ5_append_cf1ce 20 = .ok (.iadd, 1) := dk_96 (dq_lk dJ5_append_cf1ce_w0 (r := 20) (x := 96) rfl)
theorem dJ5_append_cf1ce_21 : decode cJ5_append_cf1ce 21 = .ok (.invokevirtual 100, 3) := dk_182 (dq_lk dJ5_append_cf1ce_w0 (r := 21) (x := 182) rfl) (dq_lk dJ5_append_cf1ce_w0 (r := 22) (x := 0) rfl) (dq_lk dJ5_append_cf1ce_w0 (r := 23) (x := 100) rfl)
theorem dJ5_append_cf1ce_24 : decode cJ5_append_cf1ce 24 = .ok (.aload_n 0, 1) := dk_42 (dq_lk dJ5_append_cf1ce_w0 (r := 24) (x := 42) rfl)
theorem dJ5_append_cf1ce_25 : decode cJ5_append_cf1ce 25 = .ok (.aload_n 0, 1) := dk_42 (dq_lk dJ5_append_cf1ce_w0 (r := 25) (x := 42) rfl)
theorem dJ5_append_cf1ce_26 : decode cJ5_append_cf1ce 26 = .ok (.getfield 79, 3) := dk_180 (dq_lk dJ5_append_cf1ce_w0 (r := 26) (x := 180) rfl) (dq_lk dJ5_append_cf1ce_w0 (r := 27) (x := 0) rfl) (dq_lk dJ5_append_cf1ce_w0 (r := 28) (x := 79) rfl)
theorem dJ5_append_cf1ce_29 : decode cJ5_append_cf1ce 29 = .ok (.aload_n 1, 1) := dk_43 (dq_lk dJ5_append_cf1ce_w0 (r := 29) (x := 43) rfl)
theorem dJ5_append_cf1ce_30 : decode cJ5_append_cf1ce 30 = .ok (.invokevirtual 208, 3) := dk_182 (dq_lk dJ5_append_cf1ce_w0 (r := 30) (x := 182) rfl) (dq_lk dJ5_append_cf1ce_w0 (r := 31) (x := 0) rfl) (dq_lk dJ5_append_cf1ce_w0 (r := 32) (x := 208) rfl)
theorem dJ5_append_cf1ce_33 : decode cJ5_append_cf1ce 33 = .ok (.aload_n 0, 1) := dk_42 (dq_lk dJ5_append_cf1ce_w0 (r := 33) (x := 42) rfl)
theorem dJ5_append_cf1ce_34 : decode cJ5_append_cf1ce 34 = .ok (.dup, 1) := dk_89 (dq_lk dJ5_append_cf1ce_w0 (r := 34) (x := 89) rfl)
theorem dJ5_append_cf1ce_35 : decode cJ5_append_cf1ce 35 = .ok (.getfield 79, 3) := dk_180 (dq_lk dJ5_append_cf1ce_w0 (r := 35) (x := 180) rfl) (dq_lk dJ5_append_cf1ce_w0 (r := 36) (x := 0) rfl) (dq_lk dJ5_append_cf1ce_w0 (r := 37) (x := 79) rfl)
theorem dJ5_append_cf1ce_38 : decode cJ5_append_cf1ce 38 = .ok (.iload_n 2, 1) := dk_28 (dq_lk dJ5_append_cf1ce_w0 (r := 38) (x := 28) rfl)
theorem dJ5_append_cf1ce_39 : decode cJ5_append_cf1ce 39 = .ok (.iadd, 1) := dk_96 (dq_lk dJ5_append_cf1ce_w0 (r := 39) (x := 96) rfl)
theorem dJ5_append_cf1ce_40 : decode cJ5_append_cf1ce 40 = .ok (.putfield 79, 3) := dk_181 (dq_lk dJ5_append_cf1ce_w0 (r := 40) (x := 181) rfl) (dq_lk dJ5_append_cf1ce_w0 (r := 41) (x := 0) rfl) (dq_lk dJ5_append_cf1ce_w0 (r := 42) (x := 79) rfl)
theorem dJ5_append_cf1ce_43 : decode cJ5_append_cf1ce 43 = .ok (.aload_n 0, 1) := dk_42 (dq_lk dJ5_append_cf1ce_w0 (r := 43) (x := 42) rfl)
theorem dJ5_append_cf1ce_44 : decode cJ5_append_cf1ce 44 = .ok (.areturn, 1) := dk_176 (dq_lk dJ5_append_cf1ce_w0 (r := 44) (x := 176) rfl)
theorem dJ0_length_8abf5_w0 : (cJ0_length_8abf5.data.toList.drop 0).take 64 = [42, 180, 0, 9, 190, 42, 182, 1, 79, 122, 172] := by decide +kernel
theorem dJ0_length_8abf5_0 : decode cJ0_length_8abf5 0 = .ok (.aload_n 0, 1) := dk_42 (dq_lk dJ0_length_8abf5_w0 (r := 0) (x := 42) rfl)
theorem dJ0_length_8abf5_1 : decode cJ0_length_8abf5 1 = .ok (.getfield 9, 3) := dk_180 (dq_lk dJ0_length_8abf5_w0 (r := 1) (x := 180) rfl) (dq_lk dJ0_length_8abf5_w0 (r := 2) (x := 0) rfl) (dq_lk dJ0_length_8abf5_w0 (r := 3) (x := 9) rfl)
theorem dJ0_length_8abf5_4 : decode cJ0_length_8abf5 4 = .ok (.arraylength, 1) := dk_190 (dq_lk dJ0_length_8abf5_w0 (r := 4) (x := 190) rfl)
theorem dJ0_length_8abf5_5 : decode cJ0_length_8abf5 5 = .ok (.aload_n 0, 1) := dk_42 (dq_lk dJ0_length_8abf5_w0 (r := 5) (x := 42) rfl)
theorem dJ0_length_8abf5_6 : decode cJ0_length_8abf5 6 = .ok (.invokevirtual 335, 3) := dk_182 (dq_lk dJ0_length_8abf5_w0 (r := 6) (x := 182) rfl) (dq_lk dJ0_length_8abf5_w0 (r := 7) (x := 1) rfl) (dq_lk dJ0_length_8abf5_w0 (r := 8) (x := 79) rfl)
theorem dJ0_length_8abf5_9 : decode cJ0_length_8abf5 9 = .ok (.ishr, 1) := dk_122 (dq_lk dJ0_length_8abf5_w0 (r := 9) (x := 122) rfl)
theorem dJ0_length_8abf5_10 : decode cJ0_length_8abf5 10 = .ok (.ireturn, 1) := dk_172 (dq_lk dJ0_length_8abf5_w0 (r := 10) (x := 172) rfl)
theorem dJ0_coder_7d493_w0 : (cJ0_coder_7d493.data.toList.drop 0).take 64 = [178, 0, 38, 153, 0, 10, 42, 180, 0, 15, 167, 0, 4, 4, 172] := by decide +kernel
theorem dJ0_coder_7d493_0 : decode cJ0_coder_7d493 0 = .ok (.getstatic 38, 3) := dk_178 (dq_lk dJ0_coder_7d493_w0 (r := 0) (x := 178) rfl) (dq_lk dJ0_coder_7d493_w0 (r := 1) (x := 0) rfl) (dq_lk dJ0_coder_7d493_w0 (r := 2) (x := 38) rfl)
theorem dJ0_coder_7d493_3 : decode cJ0_coder_7d493 3 = .ok (.ifCond .eq 10, 3) := dk_153 (dq_lk dJ0_coder_7d493_w0 (r := 3) (x := 153) rfl) (dq_lk dJ0_coder_7d493_w0 (r := 4) (x := 0) rfl) (dq_lk dJ0_coder_7d493_w0 (r := 5) (x := 10) rfl) (by decide +kernel)
theorem dJ0_coder_7d493_6 : decode cJ0_coder_7d493 6 = .ok (.aload_n 0, 1) := dk_42 (dq_lk dJ0_coder_7d493_w0 (r := 6) (x := 42) rfl)
theorem dJ0_coder_7d493_7 : decode cJ0_coder_7d493 7 = .ok (.getfield 15, 3) := dk_180 (dq_lk dJ0_coder_7d493_w0 (r := 7) (x := 180) rfl) (dq_lk dJ0_coder_7d493_w0 (r := 8) (x := 0) rfl) (dq_lk dJ0_coder_7d493_w0 (r := 9) (x := 15) rfl)
theorem dJ0_coder_7d493_10 : decode cJ0_coder_7d493 10 = .ok (.goto 4, 3) := dk_167 (dq_lk dJ0_coder_7d493_w0 (r := 10) (x := 167) rfl) (dq_lk dJ0_coder_7d493_w0 (r := 11) (x := 0) rfl) (dq_lk dJ0_coder_7d493_w0 (r := 12) (x := 4) rfl) (by decide +kernel)
theorem dJ0_coder_7d493_14 : decode cJ0_coder_7d493 14 = .ok (.ireturn, 1) := dk_172 (dq_lk dJ0_coder_7d493_w0 (r := 14) (x := 172) rfl)
theorem dJ5_putStringAt_47b60_w0 : (cJ5_putStringAt_47b60.data.toList.drop 0).take 64 = [42, 44, 182, 1, 141, 44, 42, 180, 0, 15, 27, 42, 180, 0, 22, 182, 1, 143, 177] := by decide +kernel
theorem dJ5_putStringAt_47b60_0 : decode cJ5_putStringAt_47b60 0 = .ok (.aload_n 0, 1) := dk_42 (dq_lk dJ5_putStringAt_47b60_w0 (r := 0) (x := 42) rfl)
theorem dJ5_putStringAt_47b60_1 : decode cJ5_putStringAt_47b60 1 = .ok (.aload_n 2, 1) := dk_44 (dq_lk dJ5_putStringAt_47b60_w0 (r := 1) (x := 44) rfl)
theorem dJ5_putStringAt_47b60_2 : decode cJ5_putStringAt_47b60 2 = .ok (.invokevirtual 397, 3) := dk_182 (dq_lk dJ5_putStringAt_47b60_w0 (r := 2) (x := 182) rfl) (dq_lk dJ5_putStringAt_47b60_w0 (r := 3) (x := 1) rfl) (dq_lk dJ5_putStringAt_47b60_w0 (r := 4) (x := 141) rfl)
theorem dJ5_putStringAt_47b60_5 : decode cJ5_putStringAt_47b60 5 = .ok (.aload_n 2, 1) := dk_44 (dq_lk dJ5_putStringAt_47b60_w0 (r := 5) (x := 44) rfl)
theorem dJ5_putStringAt_47b60_6 : decode cJ5_putStringAt_47b60 6 = .ok (.aload_n 0, 1) := dk_42 (dq_lk dJ5_putStringAt_47b60_w0 (r := 6) (x := 42) rfl)
theorem dJ5_putStringAt_47b60_7 : decode cJ5_putStringAt_47b60 7 = .ok (.getfield 15, 3) := dk_180 (dq_lk dJ5_putStringAt_47b60_w0 (r := 7) (x := 180) rfl) (dq_lk dJ5_putStringAt_47b60_w0 (r := 8) (x := 0) rfl) (dq_lk dJ5_putStringAt_47b60_w0 (r := 9) (x := 15) rfl)
theorem dJ5_putStringAt_47b60_10 : decode cJ5_putStringAt_47b60 10 = .ok (.iload_n 1, 1) := dk_27 (dq_lk dJ5_putStringAt_47b60_w0 (r := 10) (x := 27) rfl)
theorem dJ5_putStringAt_47b60_11 : decode cJ5_putStringAt_47b60 11 = .ok (.aload_n 0, 1) := dk_42 (dq_lk dJ5_putStringAt_47b60_w0 (r := 11) (x := 42) rfl)
theorem dJ5_putStringAt_47b60_12 : decode cJ5_putStringAt_47b60 12 = .ok (.getfield 22, 3) := dk_180 (dq_lk dJ5_putStringAt_47b60_w0 (r := 12) (x := 180) rfl) (dq_lk dJ5_putStringAt_47b60_w0 (r := 13) (x := 0) rfl) (dq_lk dJ5_putStringAt_47b60_w0 (r := 14) (x := 22) rfl)
theorem dJ5_putStringAt_47b60_15 : decode cJ5_putStringAt_47b60 15 = .ok (.invokevirtual 399, 3) := dk_182 (dq_lk dJ5_putStringAt_47b60_w0 (r := 15) (x := 182) rfl) (dq_lk dJ5_putStringAt_47b60_w0 (r := 16) (x := 1) rfl) (dq_lk dJ5_putStringAt_47b60_w0 (r := 17) (x := 143) rfl)
theorem dJ5_putStringAt_47b60_18 : decode cJ5_putStringAt_47b60 18 = .ok (.return_, 1) := dk_177 (dq_lk dJ5_putStringAt_47b60_w0 (r := 18) (x := 177) rfl)
theorem dJ5_inflateIfNeededFor_a7421_w0 : (cJ5_inflateIfNeededFor_a7421.data.toList.drop 0).take 64 = [178, 0, 18, 153, 0, 18, 42, 180, 0, 22, 43, 182, 0, 40, 159, 0, 7, 42, 182, 0, 195, 177] := by decide +kernel
theorem dJ5_inflateIfNeededFor_a7421_0 : decode cJ5_inflateIfNeededFor_a7421 0 = .ok (.getstatic 18, 3) := dk_178 (dq_lk dJ5_inflateIfNeededFor_a7421_w0 (r := 0) (x := 178) rfl) (dq_lk dJ5_inflateIfNeededFor_a7421_w0 (r := 1) (x := 0) rfl) (dq_lk dJ5_inflateIfNeededFor_a7421_w0 (r := 2) (x := 18) rfl)
theorem dJ5_inflateIfNeededFor_a7421_3 : decode cJ5_inflateIfNeededFor_a7421 3 = .ok (.ifCond .eq 18, 3) := dk_153 (dq_lk dJ5_inflateIfNeededFor_a7421_w0 (r := 3) (x := 153) rfl) (dq_lk dJ5_inflateIfNeededFor_a7421_w0 (r := 4) (x := 0) rfl) (dq_lk dJ5_inflateIfNeededFor_a7421_w0 (r := 5) (x := 18) rfl) (by decide +kernel)
theorem dJ5_inflateIfNeededFor_a7421_6 : decode cJ5_inflateIfNeededFor_a7421 6 = .ok (.aload_n 0, 1) := dk_42 (dq_lk dJ5_inflateIfNeededFor_a7421_w0 (r := 6) (x := 42) rfl)
theorem dJ5_inflateIfNeededFor_a7421_7 : decode cJ5_inflateIfNeededFor_a7421 7 = .ok (.getfield 22, 3) := dk_180 (dq_lk dJ5_inflateIfNeededFor_a7421_w0 (r := 7) (x := 180) rfl) (dq_lk dJ5_inflateIfNeededFor_a7421_w0 (r := 8) (x := 0) rfl) (dq_lk dJ5_inflateIfNeededFor_a7421_w0 (r := 9) (x := 22) rfl)
theorem dJ5_inflateIfNeededFor_a7421_10 : decode cJ5_inflateIfNeededFor_a7421 10 = .ok (.aload_n 1, 1) := dk_43 (dq_lk dJ5_inflateIfNeededFor_a7421_w0 (r := 10) (x := 43) rfl)
theorem dJ5_inflateIfNeededFor_a7421_11 : decode cJ5_inflateIfNeededFor_a7421 11 = .ok (.invokevirtual 40, 3) := dk_182 (dq_lk dJ5_inflateIfNeededFor_a7421_w0 (r := 11) (x := 182) rfl) (dq_lk dJ5_inflateIfNeededFor_a7421_w0 (r := 12) (x := 0) rfl) (dq_lk dJ5_inflateIfNeededFor_a7421_w0 (r := 13) (x := 40) rfl)
theorem dJ5_inflateIfNeededFor_a7421_14 : decode cJ5_inflateIfNeededFor_a7421 14 = .ok (.if_icmp .eq 7, 3) := dk_159 (dq_lk dJ5_inflateIfNeededFor_a7421_w0 (r := 14) (x := 159) rfl) (dq_lk dJ5_inflateIfNeededFor_a7421_w0 (r := 15) (x := 0) rfl) (dq_lk dJ5_inflateIfNeededFor_a7421_w0 (r := 16) (x := 7) rfl) (by decide +kernel)
theorem dJ5_inflateIfNeededFor_a7421_21 : decode cJ5_inflateIfNeededFor_a7421 21 = .ok (.return_, 1) := dk_177 (dq_lk dJ5_inflateIfNeededFor_a7421_w0 (r := 21) (x := 177) rfl)
theorem dJ0_getBytes_840e7_w0 : (cJ0_getBytes_840e7.data.toList.drop 0).take 64 = [42, 182, 1, 79, 29, 160, 0, 23, 42, 180, 0, 9, 3, 43, 28, 29, 120, 42, 180, 0, 9, 190, 184, 0, 212, 167, 0, 18, 42, 180, 0, 9, 3, 43, 28, 42, 180, 0, 9, 190, 184, 0, 106, 177] := by decide +kernel
theorem dJ0_getBytes_840e7_0 : decode cJ0_getBytes_840e7 0 = .ok (.aload_n 0, 1) := dk_42 (dq_lk dJ0_getBytes_840e7_w0 (r := 0) (x := 42) rfl)
theorem dJ0_getBytes_840e7_1 : decode cJ0_getBytes_840e7 1 = .ok (.invokevirtual 335, 3) := dk_182 (dq_lk dJ0_getBytes_840e7_w0 (r := 1) (x := 182) rfl) (dq_lk dJ0_getBytes_840e7_w0 (r := 2) (x := 1) rfl) (dq_lk dJ0_getBytes_840e7_w0 (r := 3) (x := 79) rfl)
theorem dJ0_getBytes_840e7_4 : decode cJ0_getBytes_840e7 4 = .ok (.iload_n 3, 1) := dk_29 (dq_lk dJ0_getBytes_840e7_w0 (r := 4) (x := 29) rfl)
theorem dJ0_getBytes_840e7_5 : decode cJ0_getBytes_840e7 5 = .ok (.if_icmp .ne 23, 3) := dk_160 (dq_lk dJ0_getBytes_840e7_w0 (r := 5) (x := 160) rfl) (dq_lk dJ0_getBytes_840e7_w0 (r := 6) (x := 0) rfl) (dq_lk dJ0_getBytes_840e7_w0 (r := 7) (x := 23) rfl) (by decide +kernel)
theorem dJ0_getBytes_840e7_8 : decode cJ0_getBytes_840e7 8 = .ok (.aload_n 0, 1) := dk_42 (dq_lk dJ0_getBytes_840e7_w0 (r := 8) (x := 42) rfl)
theorem dJ0_getBytes_840e7_9 : decode cJ0_getBytes_840e7 9 = .ok (.getfield 9, 3) := dk_180 (dq_lk dJ0_getBytes_840e7_w0 (r := 9) (x := 180) rfl) (dq_lk dJ0_getBytes_840e7_w0 (r := 10) (x := 0) rfl) (dq_lk dJ0_getBytes_840e7_w0 (r := 11) (x := 9) rfl)
theorem dJ0_getBytes_840e7_12 : decode cJ0_getBytes_840e7 12 = .ok (.iconst 0, 1) := dk_3 (dq_lk dJ0_getBytes_840e7_w0 (r := 12) (x := 3) rfl)
theorem dJ0_getBytes_840e7_13 : decode cJ0_getBytes_840e7 13 = .ok (.aload_n 1, 1) := dk_43 (dq_lk dJ0_getBytes_840e7_w0 (r := 13) (x := 43) rfl)
theorem dJ0_getBytes_840e7_14 : decode cJ0_getBytes_840e7 14 = .ok (.iload_n 2, 1) := dk_28 (dq_lk dJ0_getBytes_840e7_w0 (r := 14) (x := 28) rfl)
theorem dJ0_getBytes_840e7_15 : decode cJ0_getBytes_840e7 15 = .ok (.iload_n 3, 1) := dk_29 (dq_lk dJ0_getBytes_840e7_w0 (r := 15) (x := 29) rfl)
theorem dJ0_getBytes_840e7_16 : decode cJ0_getBytes_840e7 16 = .ok (.ishl, 1) := dk_120 (dq_lk dJ0_getBytes_840e7_w0 (r := 16) (x := 120) rfl)
theorem dJ0_getBytes_840e7_17 : decode cJ0_getBytes_840e7 17 = .ok (.aload_n 0, 1) := dk_42 (dq_lk dJ0_getBytes_840e7_w0 (r := 17) (x := 42) rfl)
theorem dJ0_getBytes_840e7_18 : decode cJ0_getBytes_840e7 18 = .ok (.getfield 9, 3) := dk_180 (dq_lk dJ0_getBytes_840e7_w0 (r := 18) (x := 180) rfl) (dq_lk dJ0_getBytes_840e7_w0 (r := 19) (x := 0) rfl) (dq_lk dJ0_getBytes_840e7_w0 (r := 20) (x := 9) rfl)
theorem dJ0_getBytes_840e7_21 : decode cJ0_getBytes_840e7 21 = .ok (.arraylength, 1) := dk_190 (dq_lk dJ0_getBytes_840e7_w0 (r := 21) (x := 190) rfl)
theorem dJ0_getBytes_840e7_22 : decode cJ0_getBytes_840e7 22 = .ok (.invokestatic 212, 3) := dk_184 (dq_lk dJ0_getBytes_840e7_w0 (r := 22) (x := 184) rfl) (dq_lk dJ0_getBytes_840e7_w0 (r := 23) (x := 0) rfl) (dq_lk dJ0_getBytes_840e7_w0 (r := 24) (x := 212) rfl)
theorem dJ0_getBytes_840e7_25 : decode cJ0_getBytes_840e7 25 = .ok (.goto 18, 3) := dk_167 (dq_lk dJ0_getBytes_840e7_w0 (r := 25) (x := 167) rfl) (dq_lk dJ0_getBytes_840e7_w0 (r := 26) (x := 0) rfl) (dq_lk dJ0_getBytes_840e7_w0 (r := 27) (x := 18) rfl) (by decide +kernel)
theorem dJ0_getBytes_840e7_43 : decode cJ0_getBytes_840e7 43 = .ok (.return_, 1) := dk_177 (dq_lk dJ0_getBytes_840e7_w0 (r := 43) (x := 177) rfl)
theorem dJ4_append_f7089_w0 : (cJ4_append_f7089.data.toList.drop 0).take 64 = [42, 31, 183, 0, 56, 87, 42, 176] := by decide +kernel
theorem dJ4_append_f7089_0 : decode cJ4_append_f7089 0 = .ok (.aload_n 0, 1) := dk_42 (dq_lk dJ4_append_f7089_w0 (r := 0) (x := 42) rfl)
theorem dJ4_append_f7089_1 : decode cJ4_append_f7089 1 = .ok (.lload_n 1, 1) := dk_31 (dq_lk dJ4_append_f7089_w0 (r := 1) (x := 31) rfl)
theorem dJ4_append_f7089_2 : decode cJ4_append_f7089 2 = .ok (.invokespecial 56, 3) := dk_183 (dq_lk dJ4_append_f7089_w0 (r := 2) (x := 183) rfl) (dq_lk dJ4_append_f7089_w0 (r := 3) (x := 0) rfl) (dq_lk dJ4_append_f7089_w0 (r := 4) (x := 56) rfl)
theorem dJ4_append_f7089_5 : decode cJ4_append_f7089 5 = .ok (.pop, 1) := dk_87 (dq_lk dJ4_append_f7089_w0 (r := 5) (x := 87) rfl)
theorem dJ4_append_f7089_6 : decode cJ4_append_f7089 6 = .ok (.aload_n 0, 1) := dk_42 (dq_lk dJ4_append_f7089_w0 (r := 6) (x := 42) rfl)
theorem dJ4_append_f7089_7 : decode cJ4_append_f7089 7 = .ok (.areturn, 1) := dk_176 (dq_lk dJ4_append_f7089_w0 (r := 7) (x := 176) rfl)
theorem dJ5_append_66267_w0 : (cJ5_append_66267.data.toList.drop 0).take 64 = [42, 180, 0, 79, 62, 29, 31, 184, 0, 254, 96, 54, 4, 42, 21, 4, 182, 0, 100, 42, 182, 0, 83, 153, 0, 17, 31, 21, 4, 42, 180, 0, 15, 184, 1, 3, 87, 167, 0, 15, 31, 29, 21, 4, 42, 180, 0, 15, 184, 1, 6, 87, 42, 21, 4, 181, 0, 79, 42, 176] := by decide +kernel
theorem dJ5_append_66267_0 : decode cJ5_append_66267 0 = .ok (.aload_n 0, 1) := dk_42 (dq_lk dJ5_append_66267_w0 (r := 0) (x := 42) rfl)
theorem dJ5_append_66267_1 : decode cJ5_append_66267 1 = .ok (.getfield 79, 3) := dk_180 (dq_lk dJ5_append_66267_w0 (r := 1) (x := 180) rfl) (dq_lk dJ5_append_66267_w0 (r := 2) (x := 0) rfl) (dq_lk dJ5_append_66267_w0 (r := 3) (x := 79) rfl)
theorem dJ5_append_66267_4 : decode cJ5_append_66267 4 = .ok (.istore_n 3, 1) := dk_62 (dq_lk dJ5_append_66267_w0 (r := 4) (x := 62) rfl)
theorem dJ5_append_66267_5 : decode cJ5_append_66267 5 = .ok (.iload_n 3, 1) := dk_29 (dq_lk dJ5_append_66267_w0 (r := 5) (x := 29) rfl)
theorem dJ5_append_66267_6 : decode cJ5_append_66267 6 = .ok (.lload_n 1, 1) := dk_31 (dq_lk dJ5_append_66267_w0 (r := 6) (x := 31) rfl)
theorem dJ5_append_66267_7 : decode cJ5_append_66267 7 = .ok (.invokestatic 254, 3) := dk_184 (dq_lk dJ5_append_66267_w0 (r := 7) (x := 184) rfl) (dq_lk dJ5_append_66267_w0 (r := 8) (x := 0) rfl) (dq_lk dJ5_append_66267_w0 (r := 9) (x := 254) rfl)
theorem dJ5_append_66267_10 : decode cJ5_append_66267 10 = .ok (.iadd, 1) := dk_96 (dq_lk dJ5_append_66267_w0 (r := 10) (x := 96) rfl)
theorem dJ5_append_66267_11 : decode cJ5_append_66267 11 = .ok (.istore 4, 2) := dk_54 (dq_lk dJ5_append_66267_w0 (r := 11) (x := 54) rfl) (dq_lk dJ5_append_66267_w0 (r := 12) (x := 4) rfl)
theorem dJ5_append_66267_13 : decode cJ5_append_66267 13 = .ok (.aload_n 0, 1) := dk_42 (dq_lk dJ5_append_66267_w0 (r := 13) (x := 42) rfl)
theorem dJ5_append_66267_14 : decode cJ5_append_66267 14 = .ok (.iload 4, 2) := dk_21 (dq_lk dJ5_append_66267_w0 (r := 14) (x := 21) rfl) (dq_lk dJ5_append_66267_w0 (r := 15) (x := 4) rfl)
theorem dJ5_append_66267_16 : decode cJ5_append_66267 16 = .ok (.invokevirtual 100, 3) := dk_182 (dq_lk dJ5_append_66267_w0 (r := 16) (x := 182) rfl) (dq_lk dJ5_append_66267_w0 (r := 17) (x := 0) rfl) (dq_lk dJ5_append_66267_w0 (r := 18) (x := 100) rfl)
theorem dJ5_append_66267_19 : decode cJ5_append_66267 19 = .ok (.aload_n 0, 1) := dk_42 (dq_lk dJ5_append_66267_w0 (r := 19) (x := 42) rfl)
theorem dJ5_append_66267_20 : decode cJ5_append_66267 20 = .ok (.invokevirtual 83, 3) := dk_182 (dq_lk dJ5_append_66267_w0 (r := 20) (x := 182) rfl) (dq_lk dJ5_append_66267_w0 (r := 21) (x := 0) rfl) (dq_lk dJ5_append_66267_w0 (r := 22) (x := 83) rfl)
theorem dJ5_append_66267_23 : decode cJ5_append_66267 23 = .ok (.ifCond .eq 17, 3) := dk_153 (dq_lk dJ5_append_66267_w0 (r := 23) (x := 153) rfl) (dq_lk dJ5_append_66267_w0 (r := 24) (x := 0) rfl) (dq_lk dJ5_append_66267_w0 (r := 25) (x := 17) rfl) (by decide +kernel)
theorem dJ5_append_66267_26 : decode cJ5_append_66267 26 = .ok (.lload_n 1, 1) := dk_31 (dq_lk dJ5_append_66267_w0 (r := 26) (x := 31) rfl)
theorem dJ5_append_66267_27 : decode cJ5_append_66267 27 = .ok (.iload 4, 2) := dk_21 (dq_lk dJ5_append_66267_w0 (r := 27) (x := 21) rfl) (dq_lk dJ5_append_66267_w0 (r := 28) (x := 4) rfl)
theorem dJ5_append_66267_29 : decode cJ5_append_66267 29 = .ok (.aload_n 0, 1) := dk_42 (dq_lk dJ5_append_66267_w0 (r := 29) (x := 42) rfl)
theorem dJ5_append_66267_30 : decode cJ5_append_66267 30 = .ok (.getfield 15, 3) := dk_180 (dq_lk dJ5_append_66267_w0 (r := 30) (x := 180) rfl) (dq_lk dJ5_append_66267_w0 (r := 31) (x := 0) rfl) (dq_lk dJ5_append_66267_w0 (r := 32) (x := 15) rfl)
theorem dJ5_append_66267_33 : decode cJ5_append_66267 33 = .ok (.invokestatic 259, 3) := dk_184 (dq_lk dJ5_append_66267_w0 (r := 33) (x := 184) rfl) (dq_lk dJ5_append_66267_w0 (r := 34) (x := 1) rfl) (dq_lk dJ5_append_66267_w0 (r := 35) (x := 3) rfl)
theorem dJ5_append_66267_36 : decode cJ5_append_66267 36 = .ok (.pop, 1) := dk_87 (dq_lk dJ5_append_66267_w0 (r := 36) (x := 87) rfl)
theorem dJ5_append_66267_37 : decode cJ5_append_66267 37 = .ok (.goto 15, 3) := dk_167 (dq_lk dJ5_append_66267_w0 (r := 37) (x := 167) rfl) (dq_lk dJ5_append_66267_w0 (r := 38) (x := 0) rfl) (dq_lk dJ5_append_66267_w0 (r := 39) (x := 15) rfl) (by decide +kernel)
theorem dJ5_append_66267_52 : decode cJ5_append_66267 52 = .ok (.aload_n 0, 1) := dk_42 (dq_lk dJ5_append_66267_w0 (r := 52) (x := 42) rfl)
theorem dJ5_append_66267_53 : decode cJ5_append_66267 53 = .ok (.iload 4, 2) := dk_21 (dq_lk dJ5_append_66267_w0 (r := 53) (x := 21) rfl) (dq_lk dJ5_append_66267_w0 (r := 54) (x := 4) rfl)
theorem dJ5_append_66267_55 : decode cJ5_append_66267 55 = .ok (.putfield 79, 3) := dk_181 (dq_lk dJ5_append_66267_w0 (r := 55) (x := 181) rfl) (dq_lk dJ5_append_66267_w0 (r := 56) (x := 0) rfl) (dq_lk dJ5_append_66267_w0 (r := 57) (x := 79) rfl)
theorem dJ5_append_66267_58 : decode cJ5_append_66267 58 = .ok (.aload_n 0, 1) := dk_42 (dq_lk dJ5_append_66267_w0 (r := 58) (x := 42) rfl)
theorem dJ5_append_66267_59 : decode cJ5_append_66267 59 = .ok (.areturn, 1) := dk_176 (dq_lk dJ5_append_66267_w0 (r := 59) (x := 176) rfl)
theorem dJ13_stringSize_95d88_w0 : (cJ13_stringSize_95d88.data.toList.drop 0).take 64 = [4, 61, 30, 9, 148, 155, 0, 8, 3, 61, 30, 117, 63, 20, 0, 140, 66, 4, 54, 5, 21, 5, 16, 19, 162, 0, 26, 30, 33, 148, 158, 0, 8, 21, 5, 28, 96, 172, 20, 0, 53, 33, 105, 66, 132, 5, 1, 167, 255, 229, 16, 19, 28, 96, 172] := by decide +kernel
theorem dJ13_stringSize_95d88_0 : decode cJ13_stringSize_95d88 0 = .ok (.iconst 1, 1) := dk_4 (dq_lk dJ13_stringSize_95d88_w0 (r := 0) (x := 4) rfl)
theorem dJ13_stringSize_95d88_1 : decode cJ13_stringSize_95d88 1 = .ok (.istore_n 2, 1) := dk_61 (dq_lk dJ13_stringSize_95d88_w0 (r := 1) (x := 61) rfl)
theorem dJ13_stringSize_95d88_2 : decode cJ13_stringSize_95d88 2 = .ok (.lload_n 0, 1) := dk_30 (dq_lk dJ13_stringSize_95d88_w0 (r := 2) (x := 30) rfl)
theorem dJ13_stringSize_95d88_3 : decode cJ13_stringSize_95d88 3 = .ok (.lconst 0, 1) := dk_9 (dq_lk dJ13_stringSize_95d88_w0 (r := 3) (x := 9) rfl)
theorem dJ13_stringSize_95d88_4 : decode cJ13_stringSize_95d88 4 = .ok (.lcmp, 1) := dk_148 (dq_lk dJ13_stringSize_95d88_w0 (r := 4) (x := 148) rfl)
theorem dJ13_stringSize_95d88_5 : decode cJ13_stringSize_95d88 5 = .ok (.ifCond .lt 8, 3) := dk_155 (dq_lk dJ13_stringSize_95d88_w0 (r := 5) (x := 155) rfl) (dq_lk dJ13_stringSize_95d88_w0 (r := 6) (x := 0) rfl) (dq_lk dJ13_stringSize_95d88_w0 (r := 7) (x := 8) rfl) (by decide +kernel)
theorem dJ13_stringSize_95d88_8 : decode cJ13_stringSize_95d88 8 = .ok (.iconst 0, 1) := dk_3 (dq_lk dJ13_stringSize_95d88_w0 (r := 8) (x := 3) rfl)
theorem dJ13_stringSize_95d88_9 : decode cJ13_stringSize_95d88 9 = .ok (.istore_n 2, 1) := dk_61 (dq_lk dJ13_stringSize_95d88_w0 (r := 9) (x := 61) rfl)
theorem dJ13_stringSize_95d88_10 : decode cJ13_stringSize_95d88 10 = .ok (.lload_n 0, 1) := dk_30 (dq_lk dJ13_stringSize_95d88_w0 (r := 10) (x := 30) rfl)
theorem dJ13_stringSize_95d88_11 : decode cJ13_stringSize_95d88 11 = .ok (.lneg, 1) := dk_117 (dq_lk dJ13_stringSize_95d88_w0 (r := 11) (x := 117) rfl)
theorem dJ13_stringSize_95d88_12 : decode cJ13_stringSize_95d88 12 = .ok (.lstore_n 0, 1) := dk_63 (dq_lk dJ13_stringSize_95d88_w0 (r := 12) (x := 63) rfl)
theorem dJ13_stringSize_95d88_13 : decode cJ13_stringSize_95d88 13 = .ok (.ldc2_w 140, 3) := dk_20 (dq_lk dJ13_stringSize_95d88_w0 (r := 13) (x := 20) rfl) (dq_lk dJ13_stringSize_95d88_w0 (r := 14) (x := 0) rfl) (dq_lk dJ13_stringSize_95d88_w0 (r := 15) (x := 140) rfl)
theorem dJ13_stringSize_95d88_16 : decode cJ13_stringSize_95d88 16 = .ok (.lstore_n 3, 1) := dk_66 (dq_lk dJ13_stringSize_95d88_w0 (r := 16) (x := 66) rfl)
theorem dJ13_stringSize_95d88_17 : decode cJ13_stringSize_95d88 17 = .ok (.iconst 1, 1) := dk_4 (dq_lk dJ13_stringSize_95d88_w0 (r := 17) (x := 4) rfl)
theorem dJ13_stringSize_95d88_18 : decode cJ13_stringSize_95d88 18 = .ok (.istore 5, 2) := dk_54 (dq_lk dJ13_stringSize_95d88_w0 (r := 18) (x := 54) rfl) (dq_lk dJ13_stringSize_95d88_w0 (r := 19) (x := 5) rfl)
theorem dJ13_stringSize_95d88_20 : decode cJ13_stringSize_95d88 20 = .ok (.iload 5, 2) := dk_21 (dq_lk dJ13_stringSize_95d88_w0 (r := 20) (x := 21) rfl) (dq_lk dJ13_stringSize_95d88_w0 (r := 21) (x := 5) rfl)
theorem dJ13_stringSize_95d88_22 : decode cJ13_stringSize_95d88 22 = .ok (.bipush 19, 2) := dk_16 (dq_lk dJ13_stringSize_95d88_w0 (r := 22) (x := 16) rfl) (dq_lk dJ13_stringSize_95d88_w0 (r := 23) (x := 19) rfl) (by decide +kernel)
theorem dJ13_stringSize_95d88_24 : decode cJ13_stringSize_95d88 24 = .ok (.if_icmp .ge 26, 3) := dk_162 (dq_lk dJ13_stringSize_95d88_w0 (r := 24) (x := 162) rfl) (dq_lk dJ13_stringSize_95d88_w0 (r := 25) (x := 0) rfl) (dq_lk dJ13_stringSize_95d88_w0 (r := 26) (x := 26) rfl) (by decide +kernel)
theorem dJ13_stringSize_95d88_27 : decode cJ13_stringSize_95d88 27 = .ok (.lload_n 0, 1) := dk_30 (dq_lk dJ13_stringSize_95d88_w0 (r := 27) (x := 30) rfl)
theorem dJ13_stringSize_95d88_28 : decode cJ13_stringSize_95d88 28 = .ok (.lload_n 3, 1) := dk_33 (dq_lk dJ13_stringSize_95d88_w0 (r := 28) (x := 33) rfl)
theorem dJ13_stringSize_95d88_29 : decode cJ13_stringSize_95d88 29 = .ok (.lcmp, 1) := dk_148 (dq_lk dJ13_stringSize_95d88_w0 (r := 29) (x := 148) rfl)
theorem dJ13_stringSize_95d88_30 : decode cJ13_stringSize_95d88 30 = .ok (.ifCond .le 8, 3) := dk_158 (dq_lk dJ13_stringSize_95d88_w0 (r := 30) (x := 158) rfl) (dq_lk dJ13_stringSize_95d88_w0 (r := 31) (x := 0) rfl) (dq_lk dJ13_stringSize_95d88_w0 (r := 32) (x := 8) rfl) (by decide +kernel)
theorem dJ13_stringSize_95d88_33 : decode cJ13_stringSize_95d88 33 = .ok (.iload 5, 2) := dk_21 (dq_lk dJ13_stringSize_95d88_w0 (r := 33) (x := 21) rfl) (dq_lk dJ13_stringSize_95d88_w0 (r := 34) (x := 5) rfl)
theorem dJ13_stringSize_95d88_35 : decode cJ13_stringSize_95d88 35 = .ok (.iload_n 2, 1) := dk_28 (dq_lk dJ13_stringSize_95d88_w0 (r := 35) (x := 28) rfl)
theorem dJ13_stringSize_95d88_36 : decode cJ13_stringSize_95d88 36 = .ok (.iadd, 1) := dk_96 (dq_lk dJ13_stringSize_95d88_w0 (r := 36) (x := 96) rfl)
theorem dJ13_stringSize_95d88_37 : decode cJ13_stringSize_95d88 37 = .ok (.ireturn, 1) := dk_172 (dq_lk dJ13_stringSize_95d88_w0 (r := 37) (x := 172) rfl)
theorem dJ13_stringSize_95d88_38 : decode cJ13_stringSize_95d88 38 = .ok (.ldc2_w 53, 3) := dk_20 (dq_lk dJ13_stringSize_95d88_w0 (r := 38) (x := 20) rfl) (dq_lk dJ13_stringSize_95d88_w0 (r := 39) (x := 0) rfl) (dq_lk dJ13_stringSize_95d88_w0 (r := 40) (x := 53) rfl)
theorem dJ13_stringSize_95d88_41 : decode cJ13_stringSize_95d88 41 = .ok (.lload_n 3, 1) := dk_33 (dq_lk dJ13_stringSize_95d88_w0 (r := 41) (x := 33) rfl)
theorem dJ13_stringSize_95d88_42 : decode cJ13_stringSize_95d88 42 = .ok (.lmul, 1) := dk_105 (dq_lk dJ13_stringSize_95d88_w0 (r := 42) (x := 105) rfl)
theorem dJ13_stringSize_95d88_43 : decode cJ13_stringSize_95d88 43 = .ok (.lstore_n 3, 1) := dk_66 (dq_lk dJ13_stringSize_95d88_w0 (r := 43) (x := 66) rfl)
theorem dJ13_stringSize_95d88_44 : decode cJ13_stringSize_95d88 44 = .ok (.iinc 5 1, 3) := dk_132 (dq_lk dJ13_stringSize_95d88_w0 (r := 44) (x := 132) rfl) (dq_lk dJ13_stringSize_95d88_w0 (r := 45) (x := 5) rfl) (dq_lk dJ13_stringSize_95d88_w0 (r := 46) (x := 1) rfl) (by decide +kernel)
theorem dJ13_stringSize_95d88_47 : decode cJ13_stringSize_95d88 47 = .ok (.goto (-27), 3) := dk_167 (dq_lk dJ13_stringSize_95d88_w0 (r := 47) (x := 167) rfl) (dq_lk dJ13_stringSize_95d88_w0 (r := 48) (x := 255) rfl) (dq_lk dJ13_stringSize_95d88_w0 (r := 49) (x := 229) rfl) (by decide +kernel)
theorem dJ13_stringSize_95d88_50 : decode cJ13_stringSize_95d88 50 = .ok (.bipush 19, 2) := dk_16 (dq_lk dJ13_stringSize_95d88_w0 (r := 50) (x := 16) rfl) (dq_lk dJ13_stringSize_95d88_w0 (r := 51) (x := 19) rfl) (by decide +kernel)
theorem dJ13_stringSize_95d88_52 : decode cJ13_stringSize_95d88 52 = .ok (.iload_n 2, 1) := dk_28 (dq_lk dJ13_stringSize_95d88_w0 (r := 52) (x := 28) rfl)
theorem dJ13_stringSize_95d88_53 : decode cJ13_stringSize_95d88 53 = .ok (.iadd, 1) := dk_96 (dq_lk dJ13_stringSize_95d88_w0 (r := 53) (x := 96) rfl)
theorem dJ13_stringSize_95d88_54 : decode cJ13_stringSize_95d88 54 = .ok (.ireturn, 1) := dk_172 (dq_lk dJ13_stringSize_95d88_w0 (r := 54) (x := 172) rfl)
theorem dJ13_getChars_11360_w0 : (cJ13_getChars_11360.data.toList.drop 0).take 64 = [28, 54, 7, 30, 9, 148, 156, 0, 7, 4, 167, 0, 4, 3, 54, 8, 21, 8, 154, 0, 6, 30, 117, 63, 30, 20, 0, 129, 148, 157, 0, 53, 30, 20, 0, 131, 109, 55, 4, 22, 4, 20, 0, 131, 105, 30, 101, 136, 54, 6, 22, 4, 63, 45, 132, 7, 255, 21, 7, 178, 0, 133, 21, 6] := by decide +kernel
theorem dJ13_getChars_11360_w1 : (cJ13_getChars_11360.data.toList.drop 64).take 64 = [51, 84, 45, 132, 7, 255, 21, 7, 178, 0, 137, 21, 6, 51, 84, 167, 255, 201, 30, 136, 54, 10, 21, 10, 16, 156, 163, 0, 53, 21, 10, 16, 100, 108, 54, 9, 21, 9, 16, 100, 104, 21, 10, 100, 54, 6, 21, 9, 54, 10, 45, 132, 7, 255, 21, 7, 178, 0, 133, 21, 6, 51, 84, 45] := by decide +kernel
theorem dJ13_getChars_11360_w2 : (cJ13_getChars_11360.data.toList.drop 128).take 64 = [132, 7, 255, 21, 7, 178, 0, 137, 21, 6, 51, 84, 167, 255, 202, 45, 132, 7, 255, 21, 7, 178, 0, 133, 21, 10, 116, 51, 84, 21, 10, 16, 247, 162, 0, 17, 45, 132, 7, 255, 21, 7, 178, 0, 137, 21, 10, 116, 51, 84, 21, 8, 153, 0, 12, 45, 132, 7, 255, 21, 7, 16, 45, 84] := by decide +kernel
theorem dJ13_getChars_11360_w3 : (cJ13_getChars_11360.data.toList.drop 192).take 64 = [21, 7, 172] := by decide +kernel
theorem dJ13_getChars_11360_0 : decode cJ13_getChars_11360 0 = .ok (.iload_n 2, 1) := dk_28 (dq_lk dJ13_getChars_11360_w0 (r := 0) (x := 28) rfl)
theorem dJ13_getChars_11360_1 : decode cJ13_getChars_11360 1 = .ok (.istore 7, 2) := dk_54 (dq_lk dJ13_getChars_11360_w0 (r := 1) (x := 54) rfl) (dq_lk dJ13_getChars_11360_w0 (r := 2) (x := 7) rfl)
theorem dJ13_getChars_11360_3 : decode cJ13_getChars_11360 3 = .ok (.lload_n 0, 1) := dk_30 (dq_lk dJ13_getChars_11360_w0 (r := 3) (x := 30) rfl)
theorem dJ13_getChars_11360_4 : decode cJ13_getChars_11360 4 = .ok (.lconst 0, 1) := dk_9 (dq_lk dJ13_getChars_11360_w0 (r := 4) (x := 9) rfl)
theorem dJ13_getChars_11360_5 : decode cJ13_getChars_11360 5 = .ok (.lcmp, 1) := dk_148 (dq_lk dJ13_getChars_11360_w0 (r := 5) (x := 148) rfl)
theorem dJ13_getChars_11360_6 : decode cJ13_getChars_11360 6 = .ok (.ifCond .ge 7, 3) := dk_156 (dq_lk dJ13_getChars_11360_w0 (r := 6) (x := 156) rfl) (dq_lk dJ13_getChars_11360_w0 (r := 7) (x := 0) rfl) (dq_lk dJ13_getChars_11360_w0 (r := 8) (x := 7) rfl) (by decide +kernel)
theorem dJ13_getChars_11360_9 : decode cJ13_getChars_11360 9 = .ok (.iconst 1, 1) := dk_4 (dq_lk dJ13_getChars_11360_w0 (r := 9) (x := 4) rfl)
theorem dJ13_getChars_11360_10 : decode cJ13_getChars_11360 10 = .ok (.goto 4, 3) := dk_167 (dq_lk dJ13_getChars_11360_w0 (r := 10) (x := 167) rfl) (dq_lk dJ13_getChars_11360_w0 (r := 11) (x := 0) rfl) (dq_lk dJ13_getChars_11360_w0 (r := 12) (x := 4) rfl) (by decide +kernel)
theorem dJ13_getChars_11360_13 : decode cJ13_getChars_11360 13 = .ok (.iconst 0, 1) := dk_3 (dq_lk dJ13_getChars_11360_w0 (r := 13) (x := 3) rfl)
theorem dJ13_getChars_11360_14 : decode cJ13_getChars_11360 14 = .ok (.istore 8, 2) := dk_54 (dq_lk dJ13_getChars_11360_w0 (r := 14) (x := 54) rfl) (dq_lk dJ13_getChars_11360_w0 (r := 15) (x := 8) rfl)
theorem dJ13_getChars_11360_16 : decode cJ13_getChars_11360 16 = .ok (.iload 8, 2) := dk_21 (dq_lk dJ13_getChars_11360_w0 (r := 16) (x := 21) rfl) (dq_lk dJ13_getChars_11360_w0 (r := 17) (x := 8) rfl)
theorem dJ13_getChars_11360_18 : decode cJ13_getChars_11360 18 = .ok (.ifCond .ne 6, 3) := dk_154 (dq_lk dJ13_getChars_11360_w0 (r := 18) (x := 154) rfl) (dq_lk dJ13_getChars_11360_w0 (r := 19) (x := 0) rfl) (dq_lk dJ13_getChars_11360_w0 (r := 20) (x := 6) rfl) (by decide +kernel)
theorem dJ13_getChars_11360_21 : decode cJ13_getChars_11360 21 = .ok (.lload_n 0, 1) := dk_30 (dq_lk dJ13_getChars_11360_w0 (r := 21) (x := 30) rfl)
theorem dJ13_getChars_11360_22 : decode cJ13_getChars_11360 22 = .ok (.lneg, 1) := dk_117 (dq_lk dJ13_getChars_11360_w0 (r := 22) (x := 117) rfl)
theorem dJ13_getChars_11360_23 : decode cJ13_getChars_11360 23 = .ok (.lstore_n 0, 1) := dk_63 (dq_lk dJ13_getChars_11360_w0 (r := 23) (x := 63) rfl)
theorem dJ13_getChars_11360_24 : decode cJ13_getChars_11360 24 = .ok (.lload_n 0, 1) := dk_30 (dq_lk dJ13_getChars_11360_w0 (r := 24) (x := 30) rfl)
theorem dJ13_getChars_11360_25 : decode cJ13_getChars_11360 25 = .ok (.ldc2_w 129, 3) := dk_20 (dq_lk dJ13_getChars_11360_w0 (r := 25) (x := 20) rfl) (dq_lk dJ13_getChars_11360_w0 (r := 26) (x := 0) rfl) (dq_lk dJ13_getChars_11360_w0 (r := 27) (x := 129) rfl)
theorem dJ13_getChars_11360_28 : decode cJ13_getChars_11360 28 = .ok (.lcmp, 1) := dk_148 (dq_lk dJ13_getChars_11360_w0 (r := 28) (x := 148) rfl)
theorem dJ13_getChars_11360_29 : decode cJ13_getChars_11360 29 = .ok (.ifCond .gt 53, 3) := dk_157 (dq_lk dJ13_getChars_11360_w0 (r := 29) (x := 157) rfl) (dq_lk dJ13_getChars_11360_w0 (r := 30) (x := 0) rfl) (dq_lk dJ13_getChars_11360_w0 (r := 31) (x := 53) rfl) (by decide +kernel)
theorem dJ13_getChars_11360_32 : decode cJ13_getChars_11360 32 = .ok (.lload_n 0, 1) := dk_30 (dq_lk dJ13_getChars_11360_w0 (r := 32) (x := 30) rfl)
theorem dJ13_getChars_11360_33 : decode cJ13_getChars_11360 33 = .ok (.ldc2_w 131, 3) := dk_20 (dq_lk dJ13_getChars_11360_w0 (r := 33) (x := 20) rfl) (dq_lk dJ13_getChars_11360_w0 (r := 34) (x := 0) rfl) (dq_lk dJ13_getChars_11360_w0 (r := 35) (x := 131) rfl)
theorem dJ13_getChars_11360_36 : decode cJ13_getChars_11360 36 = .ok (.ldiv, 1) := dk_109 (dq_lk dJ13_getChars_11360_w0 (r := 36) (x := 109) rfl)
theorem dJ13_getChars_11360_37 : decode cJ13_getChars_11360 37 = .ok (.lstore 4, 2) := dk_55 (dq_lk dJ13_getChars_11360_w0 (r := 37) (x := 55) rfl) (dq_lk dJ13_getChars_11360_w0 (r := 38) (x := 4) rfl)
theorem dJ13_getChars_11360_39 : decode cJ13_getChars_11360 39 = .ok (.lload 4, 2) := dk_22 (dq_lk dJ13_getChars_11360_w0 (r := 39) (x := 22) rfl) (dq_lk dJ13_getChars_11360_w0 (r := 40) (x := 4) rfl)
theorem dJ13_getChars_11360_41 : decode cJ13_getChars_11360 41 = .ok (.ldc2_w 131, 3) := dk_20 (dq_lk dJ13_getChars_11360_w0 (r := 41) (x := 20) rfl) (dq_lk dJ13_getChars_11360_w0 (r := 42) (x := 0) rfl) (dq_lk dJ13_getChars_11360_w0 (r := 43) (x := 131) rfl)
theorem dJ13_getChars_11360_44 : decode cJ13_getChars_11360 44 = .ok (.lmul, 1) := dk_105 (dq_lk dJ13_getChars_11360_w0 (r := 44) (x := 105) rfl)
theorem dJ13_getChars_11360_45 : decode cJ13_getChars_11360 45 = .ok (.lload_n 0, 1) := dk_30 (dq_lk dJ13_getChars_11360_w0 (r := 45) (x := 30) rfl)
theorem dJ13_getChars_11360_46 : decode cJ13_getChars_11360 46 = .ok (.lsub, 1) := dk_101 (dq_lk dJ13_getChars_11360_w0 (r := 46) (x := 101) rfl)
theorem dJ13_getChars_11360_47 : decode cJ13_getChars_11360 47 = .ok (.l2i, 1) := dk_136 (dq_lk dJ13_getChars_11360_w0 (r := 47) (x := 136) rfl)
theorem dJ13_getChars_11360_48 : decode cJ13_getChars_11360 48 = .ok (.istore 6, 2) := dk_54 (dq_lk dJ13_getChars_11360_w0 (r := 48) (x := 54) rfl) (dq_lk dJ13_getChars_11360_w0 (r := 49) (x := 6) rfl)
theorem dJ13_getChars_11360_50 : decode cJ13_getChars_11360 50 = .ok (.lload 4, 2) := dk_22 (dq_lk dJ13_getChars_11360_w0 (r := 50) (x := 22) rfl) (dq_lk dJ13_getChars_11360_w0 (r := 51) (x := 4) rfl)
theorem dJ13_getChars_11360_52 : decode cJ13_getChars_11360 52 = .ok (.lstore_n 0, 1) := dk_63 (dq_lk dJ13_getChars_11360_w0 (r := 52) (x := 63) rfl)
theorem dJ13_getChars_11360_53 : decode cJ13_getChars_11360 53 = .ok (.aload_n 3, 1) := dk_45 (dq_lk dJ13_getChars_11360_w0 (r := 53) (x := 45) rfl)
theorem dJ13_getChars_11360_54 : decode cJ13_getChars_11360 54 = .ok (.iinc 7 (-1), 3) := dk_132 (dq_lk dJ13_getChars_11360_w0 (r := 54) (x := 132) rfl) (dq_lk dJ13_getChars_11360_w0 (r := 55) (x := 7) rfl) (dq_lk dJ13_getChars_11360_w0 (r := 56) (x := 255) rfl) (by decide +kernel)
theorem dJ13_getChars_11360_57 : decode cJ13_getChars_11360 57 = .ok (.iload 7, 2) := dk_21 (dq_lk dJ13_getChars_11360_w0 (r := 57) (x := 21) rfl) (dq_lk dJ13_getChars_11360_w0 (r := 58) (x := 7) rfl)
theorem dJ13_getChars_11360_59 : decode cJ13_getChars_11360 59 = .ok (.getstatic 133, 3) := dk_178 (dq_lk dJ13_getChars_11360_w0 (r := 59) (x := 178) rfl) (dq_lk dJ13_getChars_11360_w0 (r := 60) (x := 0) rfl) (dq_lk dJ13_getChars_11360_w0 (r := 61) (x := 133) rfl)
theorem dJ13_getChars_11360_62 : decode cJ13_getChars_11360 62 = .ok (.iload 6, 2) := dk_21 (dq_lk dJ13_getChars_11360_w0 (r := 62) (x := 21) rfl) (dq_lk dJ13_getChars_11360_w0 (r := 63) (x := 6) rfl)
theorem dJ13_getChars_11360_64 : decode cJ13_getChars_11360 64 = .ok (.baload, 1) := dk_51 (dq_lk dJ13_getChars_11360_w1 (r := 0) (x := 51) rfl)
theorem dJ13_getChars_11360_65 : decode cJ13_getChars_11360 65 = .ok (.bastore, 1) := dk_84 (dq_lk dJ13_getChars_11360_w1 (r := 1) (x := 84) rfl)
theorem dJ13_getChars_11360_66 : decode cJ13_getChars_11360 66 = .ok (.aload_n 3, 1) := dk_45 (dq_lk dJ13_getChars_11360_w1 (r := 2) (x := 45) rfl)
theorem dJ13_getChars_11360_67 : decode cJ13_getChars_11360 67 = .ok (.iinc 7 (-1), 3) := dk_132 (dq_lk dJ13_getChars_11360_w1 (r := 3) (x := 132) rfl) (dq_lk dJ13_getChars_11360_w1 (r := 4) (x := 7) rfl) (dq_lk dJ13_getChars_11360_w1 (r := 5) (x := 255) rfl) (by decide +kernel)
theorem dJ13_getChars_11360_70 : decode cJ13_getChars_11360 70 = .ok (.iload 7, 2) := dk_21 (dq_lk dJ13_getChars_11360_w1 (r := 6) (x := 21) rfl) (dq_lk dJ13_getChars_11360_w1 (r := 7) (x := 7) rfl)
theorem dJ13_getChars_11360_72 : decode cJ13_getChars_11360 72 = .ok (.getstatic 137, 3) := dk_178 (dq_lk dJ13_getChars_11360_w1 (r := 8) (x := 178) rfl) (dq_lk dJ13_getChars_11360_w1 (r := 9) (x := 0) rfl) (dq_lk dJ13_getChars_11360_w1 (r := 10) (x := 137) rfl)
theorem dJ13_getChars_11360_75 : decode cJ13_getChars_11360 75 = .ok (.iload 6, 2) := dk_21 (dq_lk dJ13_getChars_11360_w1 (r := 11) (x := 21) rfl) (dq_lk dJ13_getChars_11360_w1 (r := 12) (x := 6) rfl)
theorem dJ13_getChars_11360_77 : decode cJ13_getChars_11360 77 = .ok (.baload, 1) := dk_51 (dq_lk dJ13_getChars_11360_w1 (r := 13) (x := 51) rfl)
theorem dJ13_getChars_11360_78 : decode cJ13_getChars_11360 78 = .ok (.bastore, 1) := dk_84 (dq_lk dJ13_getChars_11360_w1 (r := 14) (x := 84) rfl)
theorem dJ13_getChars_11360_79 : decode cJ13_getChars_11360 79 = .ok (.goto (-55), 3) := dk_167 (dq_lk dJ13_getChars_11360_w1 (r := 15) (x := 167) rfl) (dq_lk dJ13_getChars_11360_w1 (r := 16) (x := 255) rfl) (dq_lk dJ13_getChars_11360_w1 (r := 17) (x := 201) rfl) (by decide +kernel)
theorem dJ13_getChars_11360_82 : decode cJ13_getChars_11360 82 = .ok (.lload_n 0, 1) := dk_30 (dq_lk dJ13_getChars_11360_w1 (r := 18) (x := 30) rfl)
theorem dJ13_getChars_11360_83 : decode cJ13_getChars_11360 83 = .ok (.l2i, 1) := dk_136 (dq_lk dJ13_getChars_11360_w1 (r := 19) (x := 136) rfl)
theorem dJ13_getChars_11360_84 : decode cJ13_getChars_11360 84 = .ok (.istore 10, 2) := dk_54 (dq_lk dJ13_getChars_11360_w1 (r := 20) (x := 54) rfl) (dq_lk dJ13_getChars_11360_w1 (r := 21) (x := 10) rfl)
theorem dJ13_getChars_11360_86 : decode cJ13_getChars_11360 86 = .ok (.iload 10, 2) := dk_21 (dq_lk dJ13_getChars_11360_w1 (r := 22) (x := 21) rfl) (dq_lk dJ13_getChars_11360_w1 (r := 23) (x := 10) rfl)
theorem dJ13_getChars_11360_88 : decode cJ13_getChars_11360 88 = .ok (.bipush (-100), 2) := dk_16 (dq_lk dJ13_getChars_11360_w1 (r := 24) (x := 16) rfl) (dq_lk dJ13_getChars_11360_w1 (r := 25) (x := 156) rfl) (by decide +kernel)
theorem dJ13_getChars_11360_90 : decode cJ13_getChars_11360 90 = .ok (.if_icmp .gt 53, 3) := dk_163 (dq_lk dJ13_getChars_11360_w1 (r := 26) (x := 163) rfl) (dq_lk dJ13_getChars_11360_w1 (r := 27) (x := 0) rfl) (dq_lk dJ13_getChars_11360_w1 (r := 28) (x := 53) rfl) (by decide +kernel)
theorem dJ13_getChars_11360_93 : decode cJ13_getChars_11360 93 = .ok (.iload 10, 2) := dk_21 (dq_lk dJ13_getChars_11360_w1 (r := 29) (x := 21) rfl) (dq_lk dJ13_getChars_11360_w1 (r := 30) (x := 10) rfl)
theorem dJ13_getChars_11360_95 : decode cJ13_getChars_11360 95 = .ok (.bipush 100, 2) := dk_16 (dq_lk dJ13_getChars_11360_w1 (r := 31) (x := 16) rfl) (dq_lk dJ13_getChars_11360_w1 (r := 32) (x := 100) rfl) (by decide +kernel)
theorem dJ13_getChars_11360_97 : decode cJ13_getChars_11360 97 = .ok (.idiv, 1) := dk_108 (dq_lk dJ13_getChars_11360_w1 (r := 33) (x := 108) rfl)
theorem dJ13_getChars_11360_98 : decode cJ13_getChars_11360 98 = .ok (.istore 9, 2) := dk_54 (dq_lk dJ13_getChars_11360_w1 (r := 34) (x := 54) rfl) (dq_lk dJ13_getChars_11360_w1 (r := 35) (x := 9) rfl)
theorem dJ13_getChars_11360_100 : decode cJ13_getChars_11360 100 = .ok (.iload 9, 2) := dk_21 (dq_lk dJ13_getChars_11360_w1 (r := 36) (x := 21) rfl) (dq_lk dJ13_getChars_11360_w1 (r := 37) (x := 9) rfl)
theorem dJ13_getChars_11360_102 : decode cJ13_getChars_11360 102 = .ok (.bipush 100, 2) := dk_16 (dq_lk dJ13_getChars_11360_w1 (r := 38) (x := 16) rfl) (dq_lk dJ13_getChars_11360_w1 (r := 39) (x := 100) rfl) (by decide +kernel)
theorem dJ13_getChars_11360_104 : decode cJ13_getChars_11360 104 = .ok (.imul, 1) := dk_104 (dq_lk dJ13_getChars_11360_w1 (r := 40) (x := 104) rfl)
theorem dJ13_getChars_11360_105 : decode cJ13_getChars_11360 105 = .ok (.iload 10, 2) := dk_21 (dq_lk dJ13_getChars_11360_w1 (r := 41) (x := 21) rfl) (dq_lk dJ13_getChars_11360_w1 (r := 42) (x := 10) rfl)
theorem dJ13_getChars_11360_107 : decode cJ13_getChars_11360 107 = .ok (.isub, 1) := dk_100 (dq_lk dJ13_getChars_11360_w1 (r := 43) (x := 100) rfl)
theorem dJ13_getChars_11360_108 : decode cJ13_getChars_11360 108 = .ok (.istore 6, 2) := dk_54 (dq_lk dJ13_getChars_11360_w1 (r := 44) (x := 54) rfl) (dq_lk dJ13_getChars_11360_w1 (r := 45) (x := 6) rfl)
theorem dJ13_getChars_11360_110 : decode cJ13_getChars_11360 110 = .ok (.iload 9, 2) := dk_21 (dq_lk dJ13_getChars_11360_w1 (r := 46) (x := 21) rfl) (dq_lk dJ13_getChars_11360_w1 (r := 47) (x := 9) rfl)
theorem dJ13_getChars_11360_112 : decode cJ13_getChars_11360 112 = .ok (.istore 10, 2) := dk_54 (dq_lk dJ13_getChars_11360_w1 (r := 48) (x := 54) rfl) (dq_lk dJ13_getChars_11360_w1 (r := 49) (x := 10) rfl)
theorem dJ13_getChars_11360_114 : decode cJ13_getChars_11360 114 = .ok (.aload_n 3, 1) := dk_45 (dq_lk dJ13_getChars_11360_w1 (r := 50) (x := 45) rfl)
theorem dJ13_getChars_11360_115 : decode cJ13_getChars_11360 115 = .ok (.iinc 7 (-1), 3) := dk_132 (dq_lk dJ13_getChars_11360_w1 (r := 51) (x := 132) rfl) (dq_lk dJ13_getChars_11360_w1 (r := 52) (x := 7) rfl) (dq_lk dJ13_getChars_11360_w1 (r := 53) (x := 255) rfl) (by decide +kernel)
theorem dJ13_getChars_11360_118 : decode cJ13_getChars_11360 118 = .ok (.iload 7, 2) := dk_21 (dq_lk dJ13_getChars_11360_w1 (r := 54) (x := 21) rfl) (dq_lk dJ13_getChars_11360_w1 (r := 55) (x := 7) rfl)
theorem dJ13_getChars_11360_120 : decode cJ13_getChars_11360 120 = .ok (.getstatic 133, 3) := dk_178 (dq_lk dJ13_getChars_11360_w1 (r := 56) (x := 178) rfl) (dq_lk dJ13_getChars_11360_w1 (r := 57) (x := 0) rfl) (dq_lk dJ13_getChars_11360_w1 (r := 58) (x := 133) rfl)
theorem dJ13_getChars_11360_123 : decode cJ13_getChars_11360 123 = .ok (.iload 6, 2) := dk_21 (dq_lk dJ13_getChars_11360_w1 (r := 59) (x := 21) rfl) (dq_lk dJ13_getChars_11360_w1 (r := 60) (x := 6) rfl)
theorem dJ13_getChars_11360_125 : decode cJ13_getChars_11360 125 = .ok (.baload, 1) := dk_51 (dq_lk dJ13_getChars_11360_w1 (r := 61) (x := 51) rfl)
theorem dJ13_getChars_11360_126 : decode cJ13_getChars_11360 126 = .ok (.bastore, 1) := dk_84 (dq_lk dJ13_getChars_11360_w1 (r := 62) (x := 84) rfl)
theorem dJ13_getChars_11360_127 : decode cJ13_getChars_11360 127 = .ok (.aload_n 3, 1) := dk_45 (dq_lk dJ13_getChars_11360_w1 (r := 63) (x := 45) rfl)
theorem dJ13_getChars_11360_128 : decode cJ13_getChars_11360 128 = .ok (.iinc 7 (-1), 3) := dk_132 (dq_lk dJ13_getChars_11360_w2 (r := 0) (x := 132) rfl) (dq_lk dJ13_getChars_11360_w2 (r := 1) (x := 7) rfl) (dq_lk dJ13_getChars_11360_w2 (r := 2) (x := 255) rfl) (by decide +kernel)
theorem dJ13_getChars_11360_131 : decode cJ13_getChars_11360 131 = .ok (.iload 7, 2) := dk_21 (dq_lk dJ13_getChars_11360_w2 (r := 3) (x := 21) rfl) (dq_lk dJ13_getChars_11360_w2 (r := 4) (x := 7) rfl)
theorem dJ13_getChars_11360_133 : decode cJ13_getChars_11360 133 = .ok (.getstatic 137, 3) := dk_178 (dq_lk dJ13_getChars_11360_w2 (r := 5) (x := 178) rfl) (dq_lk dJ13_getChars_11360_w2 (r := 6) (x := 0) rfl) (dq_lk dJ13_getChars_11360_w2 (r := 7) (x := 137) rfl)
theorem dJ13_getChars_11360_136 : decode cJ13_getChars_11360 136 = .ok (.iload 6, 2) := dk_21 (dq_lk dJ13_getChars_11360_w2 (r := 8) (x := 21) rfl) (dq_lk dJ13_getChars_11360_w2 (r := 9) (x := 6) rfl)
theorem dJ13_getChars_11360_138 : decode cJ13_getChars_11360 138 = .ok (.baload, 1) := dk_51 (dq_lk dJ13_getChars_11360_w2 (r := 10) (x := 51) rfl)
theorem dJ13_getChars_11360_139 : decode cJ13_getChars_11360 139 = .ok (.bastore, 1) := dk_84 (dq_lk dJ13_getChars_11360_w2 (r := 11) (x := 84) rfl)
theorem dJ13_getChars_11360_140 : decode cJ13_getChars_11360 140 = .ok (.goto (-54), 3) := dk_167 (dq_lk dJ13_getChars_11360_w2 (r := 12) (x := 167) rfl) (dq_lk dJ13_getChars_11360_w2 (r := 13) (x := 255) rfl) (dq_lk dJ13_getChars_11360_w2 (r := 14) (x := 202) rfl) (by decide +kernel)
theorem dJ13_getChars_11360_143 : decode cJ13_getChars_11360 143 = .ok (.aload_n 3, 1) := dk_45 (dq_lk dJ13_getChars_11360_w2 (r := 15) (x := 45) rfl)
theorem dJ13_getChars_11360_144 : decode cJ13_getChars_11360 144 = .ok (.iinc 7 (-1), 3) := dk_132 (dq_lk dJ13_getChars_11360_w2 (r := 16) (x := 132) rfl) (dq_lk dJ13_getChars_11360_w2 (r := 17) (x := 7) rfl) (dq_lk dJ13_getChars_11360_w2 (r := 18) (x := 255) rfl) (by decide +kernel)
theorem dJ13_getChars_11360_147 : decode cJ13_getChars_11360 147 = .ok (.iload 7, 2) := dk_21 (dq_lk dJ13_getChars_11360_w2 (r := 19) (x := 21) rfl) (dq_lk dJ13_getChars_11360_w2 (r := 20) (x := 7) rfl)
theorem dJ13_getChars_11360_149 : decode cJ13_getChars_11360 149 = .ok (.getstatic 133, 3) := dk_178 (dq_lk dJ13_getChars_11360_w2 (r := 21) (x := 178) rfl) (dq_lk dJ13_getChars_11360_w2 (r := 22) (x := 0) rfl) (dq_lk dJ13_getChars_11360_w2 (r := 23) (x := 133) rfl)
theorem dJ13_getChars_11360_152 : decode cJ13_getChars_11360 152 = .ok (.iload 10, 2) := dk_21 (dq_lk dJ13_getChars_11360_w2 (r := 24) (x := 21) rfl) (dq_lk dJ13_getChars_11360_w2 (r := 25) (x := 10) rfl)
theorem dJ13_getChars_11360_154 : decode cJ13_getChars_11360 154 = .ok (.ineg, 1) := dk_116 (dq_lk dJ13_getChars_11360_w2 (r := 26) (x := 116) rfl)
theorem dJ13_getChars_11360_155 : decode cJ13_getChars_11360 155 = .ok (.baload, 1) := dk_51 (dq_lk dJ13_getChars_11360_w2 (r := 27) (x := 51) rfl)
theorem dJ13_getChars_11360_156 : decode cJ13_getChars_11360 156 = .ok (.bastore, 1) := dk_84 (dq_lk dJ13_getChars_11360_w2 (r := 28) (x := 84) rfl)
theorem dJ13_getChars_11360_157 : decode cJ13_getChars_11360 157 = .ok (.iload 10, 2) := dk_21 (dq_lk dJ13_getChars_11360_w2 (r := 29) (x := 21) rfl) (dq_lk dJ13_getChars_11360_w2 (r := 30) (x := 10) rfl)
theorem dJ13_getChars_11360_159 : decode cJ13_getChars_11360 159 = .ok (.bipush (-9), 2) := dk_16 (dq_lk dJ13_getChars_11360_w2 (r := 31) (x := 16) rfl) (dq_lk dJ13_getChars_11360_w2 (r := 32) (x := 247) rfl) (by decide +kernel)
theorem dJ13_getChars_11360_161 : decode cJ13_getChars_11360 161 = .ok (.if_icmp .ge 17, 3) := dk_162 (dq_lk dJ13_getChars_11360_w2 (r := 33) (x := 162) rfl) (dq_lk dJ13_getChars_11360_w2 (r := 34) (x := 0) rfl) (dq_lk dJ13_getChars_11360_w2 (r := 35) (x := 17) rfl) (by decide +kernel)
theorem dJ13_getChars_11360_164 : decode cJ13_getChars_11360 164 = .ok (.aload_n 3, 1) := dk_45 (dq_lk dJ13_getChars_11360_w2 (r := 36) (x := 45) rfl)
theorem dJ13_getChars_11360_165 : decode cJ13_getChars_11360 165 = .ok (.iinc 7 (-1), 3) := dk_132 (dq_lk dJ13_getChars_11360_w2 (r := 37) (x := 132) rfl) (dq_lk dJ13_getChars_11360_w2 (r := 38) (x := 7) rfl) (dq_lk dJ13_getChars_11360_w2 (r := 39) (x := 255) rfl) (by decide +kernel)
theorem dJ13_getChars_11360_168 : decode cJ13_getChars_11360 168 = .ok (.iload 7, 2) := dk_21 (dq_lk dJ13_getChars_11360_w2 (r := 40) (x := 21) rfl) (dq_lk dJ13_getChars_11360_w2 (r := 41) (x := 7) rfl)
theorem dJ13_getChars_11360_170 : decode cJ13_getChars_11360 170 = .ok (.getstatic 137, 3) := dk_178 (dq_lk dJ13_getChars_11360_w2 (r := 42) (x := 178) rfl) (dq_lk dJ13_getChars_11360_w2 (r := 43) (x := 0) rfl) (dq_lk dJ13_getChars_11360_w2 (r := 44) (x := 137) rfl)
theorem dJ13_getChars_11360_173 : decode cJ13_getChars_11360 173 = .ok (.iload 10, 2) := dk_21 (dq_lk dJ13_getChars_11360_w2 (r := 45) (x := 21) rfl) (dq_lk dJ13_getChars_11360_w2 (r := 46) (x := 10) rfl)
theorem dJ13_getChars_11360_175 : decode cJ13_getChars_11360 175 = .ok (.ineg, 1) := dk_116 (dq_lk dJ13_getChars_11360_w2 (r := 47) (x := 116) rfl)
theorem dJ13_getChars_11360_176 : decode cJ13_getChars_11360 176 = .ok (.baload, 1) := dk_51 (dq_lk dJ13_getChars_11360_w2 (r := 48) (x := 51) rfl)
theorem dJ13_getChars_11360_177 : decode cJ13_getChars_11360 177 = .ok (.bastore, 1) := dk_84 (dq_lk dJ13_getChars_11360_w2 (r := 49) (x := 84) rfl)
theorem dJ13_getChars_11360_178 : decode cJ13_getChars_11360 178 = .ok (.iload 8, 2) := dk_21 (dq_lk dJ13_getChars_11360_w2 (r := 50) (x := 21) rfl) (dq_lk dJ13_getChars_11360_w2 (r := 51) (x := 8) rfl)
theorem dJ13_getChars_11360_180 : decode cJ13_getChars_11360 180 = .ok (.ifCond .eq 12, 3) := dk_153 (dq_lk dJ13_getChars_11360_w2 (r := 52) (x := 153) rfl) (dq_lk dJ13_getChars_11360_w2 (r := 53) (x := 0) rfl) (dq_lk dJ13_getChars_11360_w2 (r := 54) (x := 12) rfl) (by decide +kernel)
theorem dJ13_getChars_11360_183 : decode cJ13_getChars_11360 183 = .ok (.aload_n 3, 1) := dk_45 (dq_lk dJ13_getChars_11360_w2 (r := 55) (x := 45) rfl)
theorem dJ13_getChars_11360_184 : decode cJ13_getChars_11360 184 = .ok (.iinc 7 (-1), 3) := dk_132 (dq_lk dJ13_getChars_11360_w2 (r := 56) (x := 132) rfl) (dq_lk dJ13_getChars_11360_w2 (r := 57) (x := 7) rfl) (dq_lk dJ13_getChars_11360_w2 (r := 58) (x := 255) rfl) (by decide +kernel)
theorem dJ13_getChars_11360_187 : decode cJ13_getChars_11360 187 = .ok (.iload 7, 2) := dk_21 (dq_lk dJ13_getChars_11360_w2 (r := 59) (x := 21) rfl) (dq_lk dJ13_getChars_11360_w2 (r := 60) (x := 7) rfl)
theorem dJ13_getChars_11360_189 : decode cJ13_getChars_11360 189 = .ok (.bipush 45, 2) := dk_16 (dq_lk dJ13_getChars_11360_w2 (r := 61) (x := 16) rfl) (dq_lk dJ13_getChars_11360_w2 (r := 62) (x := 45) rfl) (by decide +kernel)
theorem dJ13_getChars_11360_191 : decode cJ13_getChars_11360 191 = .ok (.bastore, 1) := dk_84 (dq_lk dJ13_getChars_11360_w2 (r := 63) (x := 84) rfl)
theorem dJ13_getChars_11360_192 : decode cJ13_getChars_11360 192 = .ok (.iload 7, 2) := dk_21 (dq_lk dJ13_getChars_11360_w3 (r := 0) (x := 21) rfl) (dq_lk dJ13_getChars_11360_w3 (r := 1) (x := 7) rfl)
theorem dJ13_getChars_11360_194 : decode cJ13_getChars_11360 194 = .ok (.ireturn, 1) := dk_172 (dq_lk dJ13_getChars_11360_w3 (r := 2) (x := 172) rfl)

